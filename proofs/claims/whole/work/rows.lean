section
-- ===== PART A: goes FIRST, ahead of the names: the tables' words, and 'selects' of the private methods out of them =====
/-- a private method of a class that the tables say can be made, by its rows of tables_1 -/
def lw_okq (q : MethodName × Nat) : Prop := (q.1.cls ≠ "java/lang/invoke/MethodHandle" ∧ q.1.cls ≠ "java/lang/invoke/VarHandle") ∧ Cond.instantiable q.1.cls q.2 ∈ tables_1 ∧ Cond.privateMethod q.1 ∈ tables_1 ∧ Cond.instanceMethod q.1 ∈ tables_1
theorem lw_p0 : lw_okq (⟨"TriangleSheet", "isRight", "(I)Z"⟩, 6) := ⟨⟨by decide +kernel, by decide +kernel⟩, List.mem_of_getElem? (i := 16) (by decide +kernel), List.mem_of_getElem? (i := 92) (by decide +kernel), List.mem_of_getElem? (i := 93) (by decide +kernel)⟩
theorem lw_p1 : lw_okq (⟨"TriangleSheet", "turnOf", "(I)I"⟩, 6) := ⟨⟨by decide +kernel, by decide +kernel⟩, List.mem_of_getElem? (i := 16) (by decide +kernel), List.mem_of_getElem? (i := 96) (by decide +kernel), List.mem_of_getElem? (i := 97) (by decide +kernel)⟩
theorem lw_p2 : lw_okq (⟨"TriangleSheet", "rememberCulprits", "(II)V"⟩, 6) := ⟨⟨by decide +kernel, by decide +kernel⟩, List.mem_of_getElem? (i := 16) (by decide +kernel), List.mem_of_getElem? (i := 112) (by decide +kernel), List.mem_of_getElem? (i := 113) (by decide +kernel)⟩
theorem lw_p3 : lw_okq (⟨"TriangleSheet", "firstUntidyBefore", "(I)I"⟩, 6) := ⟨⟨by decide +kernel, by decide +kernel⟩, List.mem_of_getElem? (i := 16) (by decide +kernel), List.mem_of_getElem? (i := 116) (by decide +kernel), List.mem_of_getElem? (i := 117) (by decide +kernel)⟩
theorem lw_p4 : lw_okq (⟨"TriangleSheet", "areTidy", "(II)Z"⟩, 6) := ⟨⟨by decide +kernel, by decide +kernel⟩, List.mem_of_getElem? (i := 16) (by decide +kernel), List.mem_of_getElem? (i := 120) (by decide +kernel), List.mem_of_getElem? (i := 121) (by decide +kernel)⟩
theorem lw_p5 : lw_okq (⟨"TriangleSheet", "areFarApart", "(II)Z"⟩, 6) := ⟨⟨by decide +kernel, by decide +kernel⟩, List.mem_of_getElem? (i := 16) (by decide +kernel), List.mem_of_getElem? (i := 124) (by decide +kernel), List.mem_of_getElem? (i := 125) (by decide +kernel)⟩
theorem lw_p6 : lw_okq (⟨"TriangleSheet", "rightmost", "(I)I"⟩, 6) := ⟨⟨by decide +kernel, by decide +kernel⟩, List.mem_of_getElem? (i := 16) (by decide +kernel), List.mem_of_getElem? (i := 128) (by decide +kernel), List.mem_of_getElem? (i := 129) (by decide +kernel)⟩
theorem lw_p7 : lw_okq (⟨"TriangleSheet", "cornerX", "(II)I"⟩, 6) := ⟨⟨by decide +kernel, by decide +kernel⟩, List.mem_of_getElem? (i := 16) (by decide +kernel), List.mem_of_getElem? (i := 132) (by decide +kernel), List.mem_of_getElem? (i := 133) (by decide +kernel)⟩
theorem lw_p8 : lw_okq (⟨"TriangleSheet", "leftmost", "(I)I"⟩, 6) := ⟨⟨by decide +kernel, by decide +kernel⟩, List.mem_of_getElem? (i := 16) (by decide +kernel), List.mem_of_getElem? (i := 143) (by decide +kernel), List.mem_of_getElem? (i := 144) (by decide +kernel)⟩
theorem lw_p9 : lw_okq (⟨"TriangleSheet", "highest", "(I)I"⟩, 6) := ⟨⟨by decide +kernel, by decide +kernel⟩, List.mem_of_getElem? (i := 16) (by decide +kernel), List.mem_of_getElem? (i := 150) (by decide +kernel), List.mem_of_getElem? (i := 151) (by decide +kernel)⟩
theorem lw_p10 : lw_okq (⟨"TriangleSheet", "cornerY", "(II)I"⟩, 6) := ⟨⟨by decide +kernel, by decide +kernel⟩, List.mem_of_getElem? (i := 16) (by decide +kernel), List.mem_of_getElem? (i := 154) (by decide +kernel), List.mem_of_getElem? (i := 155) (by decide +kernel)⟩
theorem lw_p11 : lw_okq (⟨"TriangleSheet", "lowest", "(I)I"⟩, 6) := ⟨⟨by decide +kernel, by decide +kernel⟩, List.mem_of_getElem? (i := 16) (by decide +kernel), List.mem_of_getElem? (i := 162) (by decide +kernel), List.mem_of_getElem? (i := 163) (by decide +kernel)⟩
theorem lw_p12 : lw_okq (⟨"TriangleSheet", "haveSameCorners", "(II)Z"⟩, 6) := ⟨⟨by decide +kernel, by decide +kernel⟩, List.mem_of_getElem? (i := 16) (by decide +kernel), List.mem_of_getElem? (i := 166) (by decide +kernel), List.mem_of_getElem? (i := 167) (by decide +kernel)⟩
theorem lw_p13 : lw_okq (⟨"TriangleSheet", "reachesInto", "(II)Z"⟩, 6) := ⟨⟨by decide +kernel, by decide +kernel⟩, List.mem_of_getElem? (i := 16) (by decide +kernel), List.mem_of_getElem? (i := 174) (by decide +kernel), List.mem_of_getElem? (i := 175) (by decide +kernel)⟩
theorem lw_p14 : lw_okq (⟨"TriangleSheet", "hasPlace", "(III)Z"⟩, 6) := ⟨⟨by decide +kernel, by decide +kernel⟩, List.mem_of_getElem? (i := 16) (by decide +kernel), List.mem_of_getElem? (i := 178) (by decide +kernel), List.mem_of_getElem? (i := 179) (by decide +kernel)⟩
theorem lw_p15 : lw_okq (⟨"TriangleSheet", "turnBesideEdge", "(IIII)I"⟩, 6) := ⟨⟨by decide +kernel, by decide +kernel⟩, List.mem_of_getElem? (i := 16) (by decide +kernel), List.mem_of_getElem? (i := 182) (by decide +kernel), List.mem_of_getElem? (i := 183) (by decide +kernel)⟩
def lw_privs_1 : List (MethodName × Nat) := [(⟨"TriangleSheet", "isRight", "(I)Z"⟩, 6), (⟨"TriangleSheet", "turnOf", "(I)I"⟩, 6), (⟨"TriangleSheet", "rememberCulprits", "(II)V"⟩, 6), (⟨"TriangleSheet", "firstUntidyBefore", "(I)I"⟩, 6), (⟨"TriangleSheet", "areTidy", "(II)Z"⟩, 6), (⟨"TriangleSheet", "areFarApart", "(II)Z"⟩, 6), (⟨"TriangleSheet", "rightmost", "(I)I"⟩, 6), (⟨"TriangleSheet", "cornerX", "(II)I"⟩, 6), (⟨"TriangleSheet", "leftmost", "(I)I"⟩, 6), (⟨"TriangleSheet", "highest", "(I)I"⟩, 6), (⟨"TriangleSheet", "cornerY", "(II)I"⟩, 6), (⟨"TriangleSheet", "lowest", "(I)I"⟩, 6), (⟨"TriangleSheet", "haveSameCorners", "(II)Z"⟩, 6), (⟨"TriangleSheet", "reachesInto", "(II)Z"⟩, 6), (⟨"TriangleSheet", "hasPlace", "(III)Z"⟩, 6), (⟨"TriangleSheet", "turnBesideEdge", "(IIII)I"⟩, 6)]
theorem lw_r1 : ∀ q ∈ lw_privs_1, lw_okq q := List.forall_mem_cons.mpr ⟨lw_p0, List.forall_mem_cons.mpr ⟨lw_p1, List.forall_mem_cons.mpr ⟨lw_p2, List.forall_mem_cons.mpr ⟨lw_p3, List.forall_mem_cons.mpr ⟨lw_p4, List.forall_mem_cons.mpr ⟨lw_p5, List.forall_mem_cons.mpr ⟨lw_p6, List.forall_mem_cons.mpr ⟨lw_p7, List.forall_mem_cons.mpr ⟨lw_p8, List.forall_mem_cons.mpr ⟨lw_p9, List.forall_mem_cons.mpr ⟨lw_p10, List.forall_mem_cons.mpr ⟨lw_p11, List.forall_mem_cons.mpr ⟨lw_p12, List.forall_mem_cons.mpr ⟨lw_p13, List.forall_mem_cons.mpr ⟨lw_p14, List.forall_mem_cons.mpr ⟨lw_p15, fun _ h => absurd h List.not_mem_nil⟩⟩⟩⟩⟩⟩⟩⟩⟩⟩⟩⟩⟩⟩⟩⟩
theorem lw_p16 : lw_okq (⟨"TriangleSheet", "crossesAnEdgeOf", "(II)Z"⟩, 6) := ⟨⟨by decide +kernel, by decide +kernel⟩, List.mem_of_getElem? (i := 16) (by decide +kernel), List.mem_of_getElem? (i := 187) (by decide +kernel), List.mem_of_getElem? (i := 188) (by decide +kernel)⟩
theorem lw_p17 : lw_okq (⟨"TriangleSheet", "coversPixel", "(III)Z"⟩, 6) := ⟨⟨by decide +kernel, by decide +kernel⟩, List.mem_of_getElem? (i := 16) (by decide +kernel), List.mem_of_getElem? (i := 210) (by decide +kernel), List.mem_of_getElem? (i := 211) (by decide +kernel)⟩
theorem lw_p18 : lw_okq (⟨"TriangleSheet", "liesInsideOrOnOwnEdges", "(III)Z"⟩, 6) := ⟨⟨by decide +kernel, by decide +kernel⟩, List.mem_of_getElem? (i := 16) (by decide +kernel), List.mem_of_getElem? (i := 217) (by decide +kernel), List.mem_of_getElem? (i := 218) (by decide +kernel)⟩
theorem lw_p19 : lw_okq (⟨"TriangleSheet", "ownsEdge", "(II)Z"⟩, 6) := ⟨⟨by decide +kernel, by decide +kernel⟩, List.mem_of_getElem? (i := 16) (by decide +kernel), List.mem_of_getElem? (i := 221) (by decide +kernel), List.mem_of_getElem? (i := 222) (by decide +kernel)⟩
theorem lw_p20 : lw_okq (⟨"TriangleSheet", "paintedPixels", "(I)J"⟩, 6) := ⟨⟨by decide +kernel, by decide +kernel⟩, List.mem_of_getElem? (i := 16) (by decide +kernel), List.mem_of_getElem? (i := 233) (by decide +kernel), List.mem_of_getElem? (i := 234) (by decide +kernel)⟩
theorem lw_p21 : lw_okq (⟨"TriangleSheet", "paintedInRow", "(II)I"⟩, 6) := ⟨⟨by decide +kernel, by decide +kernel⟩, List.mem_of_getElem? (i := 16) (by decide +kernel), List.mem_of_getElem? (i := 237) (by decide +kernel), List.mem_of_getElem? (i := 238) (by decide +kernel)⟩
theorem lw_p22 : lw_okq (⟨"TriangleSheet", "coveredBits", "(II)I"⟩, 6) := ⟨⟨by decide +kernel, by decide +kernel⟩, List.mem_of_getElem? (i := 16) (by decide +kernel), List.mem_of_getElem? (i := 241) (by decide +kernel), List.mem_of_getElem? (i := 242) (by decide +kernel)⟩
theorem lw_p23 : lw_okq (⟨"TriangleSheet", "sumOfTurns", "()J"⟩, 6) := ⟨⟨by decide +kernel, by decide +kernel⟩, List.mem_of_getElem? (i := 16) (by decide +kernel), List.mem_of_getElem? (i := 251) (by decide +kernel), List.mem_of_getElem? (i := 252) (by decide +kernel)⟩
theorem lw_p24 : lw_okq (⟨"TriangleSheet", "isEdge", "(II)Z"⟩, 6) := ⟨⟨by decide +kernel, by decide +kernel⟩, List.mem_of_getElem? (i := 16) (by decide +kernel), List.mem_of_getElem? (i := 267) (by decide +kernel), List.mem_of_getElem? (i := 268) (by decide +kernel)⟩
theorem lw_p25 : lw_okq (⟨"TriangleSheet$Triangles", "hasEdge", "(III)Z"⟩, 4) := ⟨⟨by decide +kernel, by decide +kernel⟩, List.mem_of_getElem? (i := 41) (by decide +kernel), List.mem_of_getElem? (i := 280) (by decide +kernel), List.mem_of_getElem? (i := 281) (by decide +kernel)⟩
theorem lw_p26 : lw_okq (⟨"TriangleSheet", "isGoodEdge", "(II)Z"⟩, 6) := ⟨⟨by decide +kernel, by decide +kernel⟩, List.mem_of_getElem? (i := 16) (by decide +kernel), List.mem_of_getElem? (i := 288) (by decide +kernel), List.mem_of_getElem? (i := 289) (by decide +kernel)⟩
theorem lw_p27 : lw_okq (⟨"TriangleSheet", "countCornerPoints", "()I"⟩, 6) := ⟨⟨by decide +kernel, by decide +kernel⟩, List.mem_of_getElem? (i := 16) (by decide +kernel), List.mem_of_getElem? (i := 316) (by decide +kernel), List.mem_of_getElem? (i := 317) (by decide +kernel)⟩
theorem lw_p28 : lw_okq (⟨"TriangleSheet", "countDifferentEdges", "()I"⟩, 6) := ⟨⟨by decide +kernel, by decide +kernel⟩, List.mem_of_getElem? (i := 16) (by decide +kernel), List.mem_of_getElem? (i := 329) (by decide +kernel), List.mem_of_getElem? (i := 330) (by decide +kernel)⟩
theorem lw_p29 : lw_okq (⟨"TriangleSheet", "countLonelyEdges", "()I"⟩, 6) := ⟨⟨by decide +kernel, by decide +kernel⟩, List.mem_of_getElem? (i := 16) (by decide +kernel), List.mem_of_getElem? (i := 336) (by decide +kernel), List.mem_of_getElem? (i := 337) (by decide +kernel)⟩
theorem lw_p30 : lw_okq (⟨"TriangleSheet", "countPieces", "()I"⟩, 6) := ⟨⟨by decide +kernel, by decide +kernel⟩, List.mem_of_getElem? (i := 16) (by decide +kernel), List.mem_of_getElem? (i := 340) (by decide +kernel), List.mem_of_getElem? (i := 341) (by decide +kernel)⟩
theorem lw_p31 : lw_okq (⟨"TriangleSheet", "renamePiece", "(II)V"⟩, 6) := ⟨⟨by decide +kernel, by decide +kernel⟩, List.mem_of_getElem? (i := 16) (by decide +kernel), List.mem_of_getElem? (i := 344) (by decide +kernel), List.mem_of_getElem? (i := 345) (by decide +kernel)⟩
def lw_privs_2 : List (MethodName × Nat) := [(⟨"TriangleSheet", "crossesAnEdgeOf", "(II)Z"⟩, 6), (⟨"TriangleSheet", "coversPixel", "(III)Z"⟩, 6), (⟨"TriangleSheet", "liesInsideOrOnOwnEdges", "(III)Z"⟩, 6), (⟨"TriangleSheet", "ownsEdge", "(II)Z"⟩, 6), (⟨"TriangleSheet", "paintedPixels", "(I)J"⟩, 6), (⟨"TriangleSheet", "paintedInRow", "(II)I"⟩, 6), (⟨"TriangleSheet", "coveredBits", "(II)I"⟩, 6), (⟨"TriangleSheet", "sumOfTurns", "()J"⟩, 6), (⟨"TriangleSheet", "isEdge", "(II)Z"⟩, 6), (⟨"TriangleSheet$Triangles", "hasEdge", "(III)Z"⟩, 4), (⟨"TriangleSheet", "isGoodEdge", "(II)Z"⟩, 6), (⟨"TriangleSheet", "countCornerPoints", "()I"⟩, 6), (⟨"TriangleSheet", "countDifferentEdges", "()I"⟩, 6), (⟨"TriangleSheet", "countLonelyEdges", "()I"⟩, 6), (⟨"TriangleSheet", "countPieces", "()I"⟩, 6), (⟨"TriangleSheet", "renamePiece", "(II)V"⟩, 6)]
theorem lw_r2 : ∀ q ∈ lw_privs_2, lw_okq q := List.forall_mem_cons.mpr ⟨lw_p16, List.forall_mem_cons.mpr ⟨lw_p17, List.forall_mem_cons.mpr ⟨lw_p18, List.forall_mem_cons.mpr ⟨lw_p19, List.forall_mem_cons.mpr ⟨lw_p20, List.forall_mem_cons.mpr ⟨lw_p21, List.forall_mem_cons.mpr ⟨lw_p22, List.forall_mem_cons.mpr ⟨lw_p23, List.forall_mem_cons.mpr ⟨lw_p24, List.forall_mem_cons.mpr ⟨lw_p25, List.forall_mem_cons.mpr ⟨lw_p26, List.forall_mem_cons.mpr ⟨lw_p27, List.forall_mem_cons.mpr ⟨lw_p28, List.forall_mem_cons.mpr ⟨lw_p29, List.forall_mem_cons.mpr ⟨lw_p30, List.forall_mem_cons.mpr ⟨lw_p31, fun _ h => absurd h List.not_mem_nil⟩⟩⟩⟩⟩⟩⟩⟩⟩⟩⟩⟩⟩⟩⟩⟩
theorem lw_p32 : lw_okq (⟨"TriangleSheet", "countBadEdges", "()I"⟩, 6) := ⟨⟨by decide +kernel, by decide +kernel⟩, List.mem_of_getElem? (i := 16) (by decide +kernel), List.mem_of_getElem? (i := 348) (by decide +kernel), List.mem_of_getElem? (i := 349) (by decide +kernel)⟩
theorem lw_p33 : lw_okq (⟨"java/lang/Throwable", "fillInStackTrace", "(I)Ljava/lang/Throwable;"⟩, 6) := ⟨⟨by decide +kernel, by decide +kernel⟩, List.mem_of_getElem? (i := 399) (by decide +kernel), List.mem_of_getElem? (i := 397) (by decide +kernel), List.mem_of_getElem? (i := 398) (by decide +kernel)⟩
theorem lw_p34 : lw_okq (⟨"TriangleSheet", "isWithin", "(III)Z"⟩, 6) := ⟨⟨by decide +kernel, by decide +kernel⟩, List.mem_of_getElem? (i := 16) (by decide +kernel), List.mem_of_getElem? (i := 533) (by decide +kernel), List.mem_of_getElem? (i := 534) (by decide +kernel)⟩
theorem lw_p35 : lw_okq (⟨"TriangleSheet", "turnEdge", "(II)Z"⟩, 6) := ⟨⟨by decide +kernel, by decide +kernel⟩, List.mem_of_getElem? (i := 16) (by decide +kernel), List.mem_of_getElem? (i := 548) (by decide +kernel), List.mem_of_getElem? (i := 549) (by decide +kernel)⟩
theorem lw_p36 : lw_okq (⟨"TriangleSheet", "turnFirstBadEdge", "()Z"⟩, 6) := ⟨⟨by decide +kernel, by decide +kernel⟩, List.mem_of_getElem? (i := 16) (by decide +kernel), List.mem_of_getElem? (i := 560) (by decide +kernel), List.mem_of_getElem? (i := 561) (by decide +kernel)⟩
theorem lw_p37 : lw_okq (⟨"TriangleSheetModel", "pointAt", "(II)I"⟩, 11) := ⟨⟨by decide +kernel, by decide +kernel⟩, List.mem_of_getElem? (i := 564) (by decide +kernel), List.mem_of_getElem? (i := 619) (by decide +kernel), List.mem_of_getElem? (i := 620) (by decide +kernel)⟩
theorem lw_p38 : lw_okq (⟨"TriangleSheetModel", "add", "(III)I"⟩, 11) := ⟨⟨by decide +kernel, by decide +kernel⟩, List.mem_of_getElem? (i := 564) (by decide +kernel), List.mem_of_getElem? (i := 631) (by decide +kernel), List.mem_of_getElem? (i := 632) (by decide +kernel)⟩
theorem lw_p39 : lw_okq (⟨"TriangleSheetModel", "set", "(IIII)V"⟩, 11) := ⟨⟨by decide +kernel, by decide +kernel⟩, List.mem_of_getElem? (i := 564) (by decide +kernel), List.mem_of_getElem? (i := 635) (by decide +kernel), List.mem_of_getElem? (i := 636) (by decide +kernel)⟩
theorem lw_p40 : lw_okq (⟨"TriangleSheetModel", "isThere", "(I)Z"⟩, 11) := ⟨⟨by decide +kernel, by decide +kernel⟩, List.mem_of_getElem? (i := 564) (by decide +kernel), List.mem_of_getElem? (i := 643) (by decide +kernel), List.mem_of_getElem? (i := 644) (by decide +kernel)⟩
theorem lw_p41 : lw_okq (⟨"TriangleSheetModel", "at", "(II)I"⟩, 11) := ⟨⟨by decide +kernel, by decide +kernel⟩, List.mem_of_getElem? (i := 564) (by decide +kernel), List.mem_of_getElem? (i := 651) (by decide +kernel), List.mem_of_getElem? (i := 652) (by decide +kernel)⟩
theorem lw_p42 : lw_okq (⟨"TriangleSheetModel", "turned", "(II)Z"⟩, 11) := ⟨⟨by decide +kernel, by decide +kernel⟩, List.mem_of_getElem? (i := 564) (by decide +kernel), List.mem_of_getElem? (i := 663) (by decide +kernel), List.mem_of_getElem? (i := 664) (by decide +kernel)⟩
theorem lw_p43 : lw_okq (⟨"TriangleSheetModel", "neighbour", "(II)I"⟩, 11) := ⟨⟨by decide +kernel, by decide +kernel⟩, List.mem_of_getElem? (i := 564) (by decide +kernel), List.mem_of_getElem? (i := 667) (by decide +kernel), List.mem_of_getElem? (i := 668) (by decide +kernel)⟩
theorem lw_p44 : lw_okq (⟨"TriangleSheetModel", "beyond", "(III)I"⟩, 11) := ⟨⟨by decide +kernel, by decide +kernel⟩, List.mem_of_getElem? (i := 564) (by decide +kernel), List.mem_of_getElem? (i := 671) (by decide +kernel), List.mem_of_getElem? (i := 672) (by decide +kernel)⟩
theorem lw_p45 : lw_okq (⟨"TriangleSheetModel", "turnOfPoints", "(III)J"⟩, 11) := ⟨⟨by decide +kernel, by decide +kernel⟩, List.mem_of_getElem? (i := 564) (by decide +kernel), List.mem_of_getElem? (i := 675) (by decide +kernel), List.mem_of_getElem? (i := 676) (by decide +kernel)⟩
theorem lw_p46 : lw_okq (⟨"TriangleSheetModel", "improves", "()Z"⟩, 11) := ⟨⟨by decide +kernel, by decide +kernel⟩, List.mem_of_getElem? (i := 564) (by decide +kernel), List.mem_of_getElem? (i := 683) (by decide +kernel), List.mem_of_getElem? (i := 684) (by decide +kernel)⟩
theorem lw_p47 : lw_okq (⟨"TriangleSheetModel", "good", "(II)Z"⟩, 11) := ⟨⟨by decide +kernel, by decide +kernel⟩, List.mem_of_getElem? (i := 564) (by decide +kernel), List.mem_of_getElem? (i := 687) (by decide +kernel), List.mem_of_getElem? (i := 688) (by decide +kernel)⟩
def lw_privs_3 : List (MethodName × Nat) := [(⟨"TriangleSheet", "countBadEdges", "()I"⟩, 6), (⟨"java/lang/Throwable", "fillInStackTrace", "(I)Ljava/lang/Throwable;"⟩, 6), (⟨"TriangleSheet", "isWithin", "(III)Z"⟩, 6), (⟨"TriangleSheet", "turnEdge", "(II)Z"⟩, 6), (⟨"TriangleSheet", "turnFirstBadEdge", "()Z"⟩, 6), (⟨"TriangleSheetModel", "pointAt", "(II)I"⟩, 11), (⟨"TriangleSheetModel", "add", "(III)I"⟩, 11), (⟨"TriangleSheetModel", "set", "(IIII)V"⟩, 11), (⟨"TriangleSheetModel", "isThere", "(I)Z"⟩, 11), (⟨"TriangleSheetModel", "at", "(II)I"⟩, 11), (⟨"TriangleSheetModel", "turned", "(II)Z"⟩, 11), (⟨"TriangleSheetModel", "neighbour", "(II)I"⟩, 11), (⟨"TriangleSheetModel", "beyond", "(III)I"⟩, 11), (⟨"TriangleSheetModel", "turnOfPoints", "(III)J"⟩, 11), (⟨"TriangleSheetModel", "improves", "()Z"⟩, 11), (⟨"TriangleSheetModel", "good", "(II)Z"⟩, 11)]
theorem lw_r3 : ∀ q ∈ lw_privs_3, lw_okq q := List.forall_mem_cons.mpr ⟨lw_p32, List.forall_mem_cons.mpr ⟨lw_p33, List.forall_mem_cons.mpr ⟨lw_p34, List.forall_mem_cons.mpr ⟨lw_p35, List.forall_mem_cons.mpr ⟨lw_p36, List.forall_mem_cons.mpr ⟨lw_p37, List.forall_mem_cons.mpr ⟨lw_p38, List.forall_mem_cons.mpr ⟨lw_p39, List.forall_mem_cons.mpr ⟨lw_p40, List.forall_mem_cons.mpr ⟨lw_p41, List.forall_mem_cons.mpr ⟨lw_p42, List.forall_mem_cons.mpr ⟨lw_p43, List.forall_mem_cons.mpr ⟨lw_p44, List.forall_mem_cons.mpr ⟨lw_p45, List.forall_mem_cons.mpr ⟨lw_p46, List.forall_mem_cons.mpr ⟨lw_p47, fun _ h => absurd h List.not_mem_nil⟩⟩⟩⟩⟩⟩⟩⟩⟩⟩⟩⟩⟩⟩⟩⟩
theorem lw_p48 : lw_okq (⟨"TriangleSheetModel", "isRight", "(I)Z"⟩, 11) := ⟨⟨by decide +kernel, by decide +kernel⟩, List.mem_of_getElem? (i := 564) (by decide +kernel), List.mem_of_getElem? (i := 698) (by decide +kernel), List.mem_of_getElem? (i := 699) (by decide +kernel)⟩
theorem lw_p49 : lw_okq (⟨"TriangleSheetModel", "twice", "(I)J"⟩, 11) := ⟨⟨by decide +kernel, by decide +kernel⟩, List.mem_of_getElem? (i := 564) (by decide +kernel), List.mem_of_getElem? (i := 702) (by decide +kernel), List.mem_of_getElem? (i := 703) (by decide +kernel)⟩
theorem lw_p50 : lw_okq (⟨"TriangleSheetModel", "blame", "(III)I"⟩, 11) := ⟨⟨by decide +kernel, by decide +kernel⟩, List.mem_of_getElem? (i := 564) (by decide +kernel), List.mem_of_getElem? (i := 706) (by decide +kernel), List.mem_of_getElem? (i := 707) (by decide +kernel)⟩
theorem lw_p51 : lw_okq (⟨"TriangleSheetModel", "isTidy", "(II)Z"⟩, 11) := ⟨⟨by decide +kernel, by decide +kernel⟩, List.mem_of_getElem? (i := 564) (by decide +kernel), List.mem_of_getElem? (i := 710) (by decide +kernel), List.mem_of_getElem? (i := 711) (by decide +kernel)⟩
theorem lw_p52 : lw_okq (⟨"TriangleSheetModel", "isCorner", "(II)Z"⟩, 11) := ⟨⟨by decide +kernel, by decide +kernel⟩, List.mem_of_getElem? (i := 564) (by decide +kernel), List.mem_of_getElem? (i := 714) (by decide +kernel), List.mem_of_getElem? (i := 715) (by decide +kernel)⟩
theorem lw_p53 : lw_okq (⟨"TriangleSheetModel", "hasPlace", "(IJJ)Z"⟩, 11) := ⟨⟨by decide +kernel, by decide +kernel⟩, List.mem_of_getElem? (i := 564) (by decide +kernel), List.mem_of_getElem? (i := 718) (by decide +kernel), List.mem_of_getElem? (i := 719) (by decide +kernel)⟩
theorem lw_p54 : lw_okq (⟨"TriangleSheetModel", "isOdd", "(IIII)Z"⟩, 11) := ⟨⟨by decide +kernel, by decide +kernel⟩, List.mem_of_getElem? (i := 564) (by decide +kernel), List.mem_of_getElem? (i := 722) (by decide +kernel), List.mem_of_getElem? (i := 723) (by decide +kernel)⟩
theorem lw_p55 : lw_okq (⟨"TriangleSheetModel", "isBetween", "(III)Z"⟩, 11) := ⟨⟨by decide +kernel, by decide +kernel⟩, List.mem_of_getElem? (i := 564) (by decide +kernel), List.mem_of_getElem? (i := 726) (by decide +kernel), List.mem_of_getElem? (i := 727) (by decide +kernel)⟩
theorem lw_p56 : lw_okq (⟨"TriangleSheetModel", "howMany", "(II)I"⟩, 11) := ⟨⟨by decide +kernel, by decide +kernel⟩, List.mem_of_getElem? (i := 564) (by decide +kernel), List.mem_of_getElem? (i := 741) (by decide +kernel), List.mem_of_getElem? (i := 742) (by decide +kernel)⟩
theorem lw_p57 : lw_okq (⟨"TriangleSheetModel", "isCovered", "(III)Z"⟩, 11) := ⟨⟨by decide +kernel, by decide +kernel⟩, List.mem_of_getElem? (i := 564) (by decide +kernel), List.mem_of_getElem? (i := 745) (by decide +kernel), List.mem_of_getElem? (i := 746) (by decide +kernel)⟩
theorem lw_p58 : lw_okq (⟨"TriangleSheetModel", "cornerPoints", "()I"⟩, 11) := ⟨⟨by decide +kernel, by decide +kernel⟩, List.mem_of_getElem? (i := 564) (by decide +kernel), List.mem_of_getElem? (i := 778) (by decide +kernel), List.mem_of_getElem? (i := 779) (by decide +kernel)⟩
theorem lw_p59 : lw_okq (⟨"TriangleSheetModel", "sides", "()I"⟩, 11) := ⟨⟨by decide +kernel, by decide +kernel⟩, List.mem_of_getElem? (i := 564) (by decide +kernel), List.mem_of_getElem? (i := 782) (by decide +kernel), List.mem_of_getElem? (i := 783) (by decide +kernel)⟩
theorem lw_p60 : lw_okq (⟨"TriangleSheetModel", "hasSide", "(III)Z"⟩, 11) := ⟨⟨by decide +kernel, by decide +kernel⟩, List.mem_of_getElem? (i := 564) (by decide +kernel), List.mem_of_getElem? (i := 786) (by decide +kernel), List.mem_of_getElem? (i := 787) (by decide +kernel)⟩
theorem lw_p61 : lw_okq (⟨"TriangleSheetModel", "edges", "(Z)I"⟩, 11) := ⟨⟨by decide +kernel, by decide +kernel⟩, List.mem_of_getElem? (i := 564) (by decide +kernel), List.mem_of_getElem? (i := 790) (by decide +kernel), List.mem_of_getElem? (i := 791) (by decide +kernel)⟩
theorem lw_p62 : lw_okq (⟨"TriangleSheetModel", "pieces", "()I"⟩, 11) := ⟨⟨by decide +kernel, by decide +kernel⟩, List.mem_of_getElem? (i := 564) (by decide +kernel), List.mem_of_getElem? (i := 794) (by decide +kernel), List.mem_of_getElem? (i := 795) (by decide +kernel)⟩
def lw_privs_4 : List (MethodName × Nat) := [(⟨"TriangleSheetModel", "isRight", "(I)Z"⟩, 11), (⟨"TriangleSheetModel", "twice", "(I)J"⟩, 11), (⟨"TriangleSheetModel", "blame", "(III)I"⟩, 11), (⟨"TriangleSheetModel", "isTidy", "(II)Z"⟩, 11), (⟨"TriangleSheetModel", "isCorner", "(II)Z"⟩, 11), (⟨"TriangleSheetModel", "hasPlace", "(IJJ)Z"⟩, 11), (⟨"TriangleSheetModel", "isOdd", "(IIII)Z"⟩, 11), (⟨"TriangleSheetModel", "isBetween", "(III)Z"⟩, 11), (⟨"TriangleSheetModel", "howMany", "(II)I"⟩, 11), (⟨"TriangleSheetModel", "isCovered", "(III)Z"⟩, 11), (⟨"TriangleSheetModel", "cornerPoints", "()I"⟩, 11), (⟨"TriangleSheetModel", "sides", "()I"⟩, 11), (⟨"TriangleSheetModel", "hasSide", "(III)Z"⟩, 11), (⟨"TriangleSheetModel", "edges", "(Z)I"⟩, 11), (⟨"TriangleSheetModel", "pieces", "()I"⟩, 11)]
theorem lw_r4 : ∀ q ∈ lw_privs_4, lw_okq q := List.forall_mem_cons.mpr ⟨lw_p48, List.forall_mem_cons.mpr ⟨lw_p49, List.forall_mem_cons.mpr ⟨lw_p50, List.forall_mem_cons.mpr ⟨lw_p51, List.forall_mem_cons.mpr ⟨lw_p52, List.forall_mem_cons.mpr ⟨lw_p53, List.forall_mem_cons.mpr ⟨lw_p54, List.forall_mem_cons.mpr ⟨lw_p55, List.forall_mem_cons.mpr ⟨lw_p56, List.forall_mem_cons.mpr ⟨lw_p57, List.forall_mem_cons.mpr ⟨lw_p58, List.forall_mem_cons.mpr ⟨lw_p59, List.forall_mem_cons.mpr ⟨lw_p60, List.forall_mem_cons.mpr ⟨lw_p61, List.forall_mem_cons.mpr ⟨lw_p62, fun _ h => absurd h List.not_mem_nil⟩⟩⟩⟩⟩⟩⟩⟩⟩⟩⟩⟩⟩⟩⟩
def lw_privs : List (MethodName × Nat) := lw_privs_1 ++ (lw_privs_2 ++ (lw_privs_3 ++ (lw_privs_4)))
def lw_tbl : List Cond := k2_sels lw_privs ++ tables_1
theorem lw_privs_ok : ∀ q ∈ lw_privs, lw_okq q := by
  show ∀ q ∈ lw_privs_1 ++ (lw_privs_2 ++ (lw_privs_3 ++ (lw_privs_4))), lw_okq q
  exact List.forall_mem_append.mpr ⟨lw_r1, List.forall_mem_append.mpr ⟨lw_r2, List.forall_mem_append.mpr ⟨lw_r3, lw_r4⟩⟩⟩
end
section
/-! ===== BEGIN words of one list among another's, by their places ===== -/
theorem goodIn_r {big : List Cond} (ws : List Cond) (ps : List Nat) (hp : ws = ps.filterMap (fun i => big[i]?)) (h : ws.all goodWord = true) : GoodIn big ws := by
  intro w hw
  have h1 := List.all_eq_true.mp h w hw
  rw [hp] at hw
  obtain ⟨i, -, hi⟩ := List.mem_filterMap.mp hw
  have hm : w ∈ big := by first | exact List.mem_of_getElem? hi | exact List.getElem?_mem hi
  exact ⟨hm, good_of_word h1⟩
theorem goodIn_app {big a b : List Cond} (ha : GoodIn big a) (hb : GoodIn big b) : GoodIn big (a ++ b) := fun w h => (List.mem_append.mp h).elim (ha w) (hb w)
theorem goodIn_ca {big a b : List Cond} {c : Cond} (ha : GoodIn big (c :: a)) (hb : GoodIn big b) : GoodIn big (c :: (a ++ b)) := fun w h => (List.mem_cons.mp h).elim (fun e => ha w (List.mem_cons.mpr (Or.inl e))) (fun h => (List.mem_append.mp h).elim (fun h => ha w (List.mem_cons.mpr (Or.inr h))) (hb w))
theorem goodIn_sub {big ws : List Cond} (hm : ∀ w ∈ ws, w ∈ big) (h : ws.all goodWord = true) : GoodIn big ws := fun w hw => ⟨hm w hw, good_of_word (List.all_eq_true.mp h w hw)⟩
/-! ===== END ===== -/

/-! ===== BEGIN exceptions that leave a method, and their catching by the caller (launches without stack traces) ===== -/
section VXA
/-! The laws vx_back, vx_callV, vx_callS, vx_callSW, vx_throw0, vx_throwS follow proofs of the library, with one case more: JvmDerived/Free/Laws.lean (Back.of_free), Shelf42/LK1.lean (callV, callS), Shelf/KitTraced.lean (throwNew0V, throwNewS). -/
/-- where a method has thrown q: the class by its name, the cell, what was written, the world -/
def vx_T (XC : String → State → State → Prop) (st : State) (q : Addr) (t : State) (mc ms : Nat) (free : Addr → Prop) : Prop :=
  ∃ (E : String) (ce : Cell) (L : List Loc), XC E st t ∧ t.heap[q]? = some ce ∧ ce.vm = .none ∧ st.vm.findClass E = some ce.cls ∧ st.WarmedH t.vm ∧ st.sameButNew ({ t with vm := st.vm } : State) L mc ms ∧ ∀ z ∈ L, free z.base
def vx_Q (Qc : Array Value → State → Outcome → State → Prop) (XC : String → State → State → Prop) (mc ms : Nat) (free : Addr → Prop) : Array Value → State → Outcome → State → Prop := fun a st o t =>
  (Qc a st o t ∧ ∃ L, FrameEnd st o t L mc ms ∧ ∀ q ∈ L, free q.base) ∨ ∃ q, o = .threw q ∧ vx_T XC st q t mc ms free
/-- a callee that returns or throws -/
def vx_Met (l : Launch) (y : MethodName) (ws : List Cond) (rm : Room) (Pc : Array Value → State → Prop) (Qc : Array Value → State → Outcome → State → Prop) (XC : String → State → State → Prop) (mc ms : Nat) (free : Addr → Prop) : Prop :=
  MetFree l y (headSpec ws rm) Pc (fun _ _ _ _ _ => True) (vx_Q Qc XC mc ms free)
def vx_Post (XC : String → State → State → Prop) (mc ms : Nat) (free : Addr → Prop) : Pt → Array Value → Addr → Pt → Prop := fun A a q B =>
  ∃ (g : JFrame) (mk : MethodId) (t : State) (L : List Loc) (E : String) (ce : Cell), B.U.heap = t.heap ∧ B.U.vm = t.vm ∧ XC E (A.U.calling g mk a) t ∧ t.heap[q]? = some ce ∧ ce.vm = .none ∧ A.U.vm.findClass E = some ce.cls ∧ B.locs = A.locs ++ L ∧ (∀ z ∈ L, free z.base) ∧ B.cells = A.cells + mc ∧ B.slots = A.slots + ms
def vx_Back (l : Launch) (R : Room) (p : Program) (e : Env) (below : List Frame) (s : State) (sargs : Array Value) (y : MethodName) (len W9 : Nat)
    (Pre : Pt → Array Value → Prop) (Post : Pt → Array Value → Option Value → Pt → Prop) (PostX : Pt → Array Value → Addr → Pt → Prop) : Prop :=
  ∀ (m : MethodId) (meth : Method) (c : Code) (A : Pt) (g : JFrame) (ig : Instr) (mk : MethodId) (a : Array Value),
    Stand p l e R s m sargs below meth c A.U A.locs A.cells A.slots → g.method = m → g.locals.size = c.maxLocals → decode c.code g.pc = .ok (ig, len) →
    2 * g.monitorRoom + (g.stack.map fun v => v.category).sum ≤ W9 → A.U.methodNamed? y = some mk → Pre A a →
    (∃ (v : Option Value) (B : Pt), Stand p l e R s m sargs below meth c B.U B.locs B.cells B.slots ∧ Post A a v B ∧
      Steps p.tables e below (doInvoke e (A.U.setTop g) [] mk a).1 (B.U.setTop { g with pc := g.pc + len, stack := v.toList ++ g.stack })) ∨
    (∃ (q : Addr) (B : Pt), Stand p l e R s m sargs below meth c B.U B.locs B.cells B.slots ∧ PostX A a q B ∧
      Steps p.tables e below (doInvoke e (A.U.setTop g) [] mk a).1 ((B.U.setTop g).pushFrame (.throwing q)))
section Payer
variable {l : Launch} {R : Room} {p : Program} {e : Env} {below : List Frame} {s : State} {sargs : Array Value} {y : MethodName} {len W9 : Nat}
theorem vx_back {ws : List Cond} {rm : Room} {Pc : Array Value → State → Prop} {Qc : Array Value → State → Outcome → State → Prop} {XC : String → State → State → Prop} {mc ms : Nat} {free : Addr → Prop} {bytes : ByteArray} {maxL : Nat} {ret : Option FieldType}
    (hM : vx_Met l y ws rm Pc Qc XC mc ms free) (hblind : FrameBlind Pc) (hrc : rm.cells = mc) (hrs : rm.slots = ms)
    (hframes : rm.frames + 1 ≤ R.frames) (hlocals : W9 + (maxL + 11) + rm.locals ≤ R.locals)
    (hws : ∀ w ∈ ws, ∀ a' U, s.WarmedH U.vm → w.before a' U = true) (hcode : Cond.code y bytes maxL ret ∈ ws) (hinit : ∀ a' U, s.WarmedH U.vm → (Cond.initialized y.cls).before a' U = true) :
    vx_Back l R p e below s sargs y len W9 (PreOf R mc ms Pc) (PostOf Qc mc ms free) (vx_Post XC mc ms free) := by
  intro m meth c A g ig mk a X hg hsize hdg hW hn hp
  have h1 : (headSpec ws rm).pre.before a A.U = true := atoms_intro fun w hw => hws w hw _ _ X.warmed
  have h2 : (Cond.code y bytes maxL ret).before a A.U = true := hws _ hcode _ _ X.warmed
  have h3 : (Cond.initialized y.cls).before a A.U = true := hinit _ _ X.warmed
  have h4 : A.cells + (headSpec ws rm).room.cells ≤ R.cells := by rw [show (headSpec ws rm).room.cells = mc from hrc]; exact hp.1
  have h5 : A.slots + (headSpec ws rm).room.slots ≤ R.slots := by rw [show (headSpec ws rm).room.slots = ms from hrs]; exact hp.2.1
  have hPc : Pc a (A.U.calling g mk a) := hblind _ _ _ _ hp.2.2
  obtain ⟨U, Ls, c0, s0⟩ := A
  dsimp only [Pt.U, Pt.locs, Pt.cells, Pt.slots] at h1 h2 h3 h4 h5 X hn hPc ⊢
  obtain ⟨methY, cY, hmY, hcY, -, hlY, -, -, -, -⟩ := Cond.code_spec hn h2
  obtain ⟨kY, hkY, -⟩ := className_of_methodNamed hn
  have hinitY : kY.init = .initialized := Cond.initialized_spec (findClass_of_methodNamed hn) hkY h3
  have h : At U g.method c below := by rw [hg]; exact X.here
  have hlocals9 : W9 + (maxL + 11) + (headSpec ws rm).room.locals ≤ R.locals := hlocals
  have happ : (headSpec ws rm).appliesLoose y e.platform (U.calling g mk a) = true :=
    Spec.appliesLoose_calling (g := g) h hdg hn hkY hinitY
      (X.room_calling (g := g) (R' := (headSpec ws rm).room) hsize hmY hcY hframes (by rw [hlY]; omega) h4 h5) h1
  obtain ⟨mid, hmid⟩ := h.above
  have hfr : (U.setTop g).frames = (.java g :: mid) ++ below := by rw [State.frames_setTop' g h.top, hmid]; rfl
  obtain ⟨o, s₂, hsteps, -, hend, hq⟩ := Steps.callFree hM p X.admits X.cas X.clock (acts := []) hfr happ hPc trivial
  have hq' : vx_Q Qc XC mc ms free a (U.calling g mk a) o s₂ := hq
  rw [State.frames_setTop' g h.top] at hend
  obtain ⟨g₀, hg0⟩ := Option.isSome_iff_exists.mp h.top
  obtain ⟨r, hr⟩ := State.topJava?_eq_some.mp hg0
  have hr' : (({ U with heap := s₂.heap, slotsUsed := s₂.slotsUsed } : State).setVm s₂.vm).frames = .java g₀ :: r := hr
  rcases hq' with ⟨hqc, L, hfe, hL⟩ | ⟨q, rfl, E, ce, L, hx, hce, hcv, hcl, hW₂, hsm, hL⟩
  · obtain ⟨⟨v, rfl⟩, hW₂, e2, q2, q3, q4, q5, q6⟩ := id hfe
    have e3 : s₂ = ({ (U.calling g mk a).setFrames s₂.frames with heap := s₂.heap, slotsUsed := s₂.slotsUsed } : State).setVm s₂.vm := by
      have : s₂ = ({ s₂ with vm := (U.calling g mk a).vm } : State).setVm s₂.vm := rfl
      rw [e2] at this
      exact this
    obtain ⟨c₂, i₂, len₂, hc₂, hd₂, hf₂⟩ := hend
    have hW' : U.WarmedH s₂.vm := hW₂
    have hcc : c₂ = c := by
      have h1 : s₂.code? g.method = U.code? g.method := by
        rw [State.code?_eq, State.code?_eq, hW'.alike.method?]
      exact Option.some.inj (hc₂.symm.trans (h1.trans h.code))
    subst hcc
    have hlen : len₂ = len := by rw [hdg] at hd₂; cases hd₂; rfl
    subst hlen
    have hs₂ : s₂ = (({ U with heap := s₂.heap, slotsUsed := s₂.slotsUsed } : State).setVm s₂.vm).setTop { g with pc := g.pc + len₂, stack := v.toList ++ g.stack } := by
      refine e3.trans ?_
      rw [hf₂, State.calling_eq h.top, State.setFrames_setFrames, State.setTop_of_frames _ hr', hr]
      rfl
    have hsame : U.sameButNew ({ U with heap := s₂.heap, slotsUsed := s₂.slotsUsed } : State) L mc ms := by
      refine ⟨?_, q2, q3, q4, q5, q6⟩
      obtain ⟨t, ht, -⟩ := State.frames_cons hr
      show ({ U with heap := s₂.heap, slotsUsed := s₂.slotsUsed } : State) = { U.setFrames U.frames with heap := s₂.heap, slotsUsed := s₂.slotsUsed }
      rw [State.setFrames_self ht]
    subst hg
    refine Or.inl ⟨v, ⟨(({ U with heap := s₂.heap, slotsUsed := s₂.slotsUsed } : State).setVm s₂.vm), Ls ++ L, c0 + mc, s0 + ms⟩,
      ⟨X.admits, X.cas, X.clock, X.frames, X.room, X.hears, X.method, X.code, (X.here.setHeapUsed s₂.heap s₂.slotsUsed).setVm hW'.alike, X.tail, State.WarmedH.trans X.warmed hW', X.limits, X.bytes, X.same.trans (hsame.setVm s.vm)⟩,
      ⟨g, mk, s₂, L, rfl, rfl, hqc, rfl, hL, rfl, rfl⟩, ?_⟩
    show Steps p.tables e below _ ((({ U with heap := s₂.heap, slotsUsed := s₂.slotsUsed } : State).setVm s₂.vm).setTop { g with pc := g.pc + len₂, stack := v.toList ++ g.stack })
    rw [← hs₂]
    exact hsteps
  · obtain ⟨e2, q2, q3, q4, q5, q6⟩ := id hsm
    have e3 : s₂ = ({ (U.calling g mk a).setFrames s₂.frames with heap := s₂.heap, slotsUsed := s₂.slotsUsed } : State).setVm s₂.vm := by
      have : s₂ = ({ s₂ with vm := (U.calling g mk a).vm } : State).setVm s₂.vm := rfl
      rw [e2] at this
      exact this
    have hf₂ : s₂.frames = .throwing q :: .java g :: U.frames.tail := hend
    have hW' : U.WarmedH s₂.vm := hW₂
    have hs₂ : s₂ = ((({ U with heap := s₂.heap, slotsUsed := s₂.slotsUsed } : State).setVm s₂.vm).setTop g).pushFrame (.throwing q) := by
      refine e3.trans ?_
      rw [hf₂, State.calling_eq h.top, State.setFrames_setFrames, State.pushFrame, State.frames_setTop _ hr', State.setTop_of_frames _ hr', State.setFrames_setFrames, hr]
      rfl
    have hsame : U.sameButNew ({ U with heap := s₂.heap, slotsUsed := s₂.slotsUsed } : State) L mc ms := by
      refine ⟨?_, q2, q3, q4, q5, q6⟩
      obtain ⟨t, ht, -⟩ := State.frames_cons hr
      show ({ U with heap := s₂.heap, slotsUsed := s₂.slotsUsed } : State) = { U.setFrames U.frames with heap := s₂.heap, slotsUsed := s₂.slotsUsed }
      rw [State.setFrames_self ht]
    subst hg
    refine Or.inr ⟨q, ⟨(({ U with heap := s₂.heap, slotsUsed := s₂.slotsUsed } : State).setVm s₂.vm), Ls ++ L, c0 + mc, s0 + ms⟩,
      ⟨X.admits, X.cas, X.clock, X.frames, X.room, X.hears, X.method, X.code, (X.here.setHeapUsed s₂.heap s₂.slotsUsed).setVm hW'.alike, X.tail, State.WarmedH.trans X.warmed hW', X.limits, X.bytes, X.same.trans (hsame.setVm s.vm)⟩,
      ⟨g, mk, s₂, L, E, ce, rfl, rfl, hx, hce, hcv, hcl, rfl, hL, rfl, rfl⟩, ?_⟩
    show Steps p.tables e below _ (((({ U with heap := s₂.heap, slotsUsed := s₂.slotsUsed } : State).setVm s₂.vm).setTop g).pushFrame (.throwing q))
    rw [← hs₂]
    exact hsteps
end Payer
section Calls
variable {p : Program} {l : Launch} {e : Env} {R : Room} {s : State} {m : MethodId} {args : Array Value} {below : List Frame} {meth : Method} {c : Code} {T : State} {locs : List Loc} {cells slots : Nat}
theorem vx_callV (X : Stand p l e R s m args below meth c T locs cells slots) (hexec : p.tables.exec = Jvm.exec) {own C : String} {index : Nat} {y : MethodName} {bytes : ByteArray} {maxL : Nat} {ret : Option FieldType}
    (hown : s.vm.findClass own = some m.cls) (hlink : (Cond.methodLink own index y).before args s = true) (hinst : (Cond.instanceMethod y).before args s = true) (hsel : (Cond.selects C y y).before args s = true)
    (hcode : (Cond.code y bytes maxL ret).before args s = true) (hy : y.cls ≠ "java/lang/invoke/MethodHandle" ∧ y.cls ≠ "java/lang/invoke/VarHandle")
    {W9 : Nat} {Pre : Pt → Array Value → Prop} {Post : Pt → Array Value → Option Value → Pt → Prop} {PostX : Pt → Array Value → Addr → Pt → Prop} (hK : vx_Back l R p e below s args y 3 W9 Pre Post PostX)
    {b : Addr} {cellB : Cell} (hcell : T.heap[b]? = some cellB) (hobj : cellB.vm.isStatics = false) (hcls : s.vm.findClass C = some cellB.cls)
    {g : JFrame} (hg : g.method = m) (hsize : g.locals.size = c.maxLocals) {argsL rest : List Value} (hlen : ∀ sig, parseMethodDescriptor y.desc = some sig → argsL.length = sig.parameters.length)
    (hstack : g.stack = argsL.reverse ++ .ref b :: rest) (hW : 2 * g.monitorRoom + (rest.map fun v => v.category).sum ≤ W9) (hdg : decode c.code g.pc = .ok (.invokevirtual index, 3))
    (hpre : ∀ vm₁, s.WarmedH vm₁ → Pre ⟨T.setVm vm₁, locs, cells, slots⟩ (Value.ref b :: argsL).toArray) :
    (∃ (v : Option Value) (vm₁ : Vm) (B : Pt), s.WarmedH vm₁ ∧ Stand p l e R s m args below meth c B.U B.locs B.cells B.slots ∧ Post ⟨T.setVm vm₁, locs, cells, slots⟩ (Value.ref b :: argsL).toArray v B ∧
      ∀ target, Steps p.tables e below (B.U.setTop { g with pc := g.pc + 3, stack := v.toList ++ rest }) target → Steps p.tables e below (T.setTop g) target) ∨
    (∃ (q : Addr) (vm₁ : Vm) (B : Pt), s.WarmedH vm₁ ∧ Stand p l e R s m args below meth c B.U B.locs B.cells B.slots ∧ PostX ⟨T.setVm vm₁, locs, cells, slots⟩ (Value.ref b :: argsL).toArray q B ∧
      Steps p.tables e below (T.setTop g) ((B.U.setTop { g with stack := rest }).pushFrame (.throwing q))) := by
  obtain ⟨mk, methM, hnamed, hmethM, hstM, habM⟩ := Cond.instanceMethod_spec hinst
  obtain ⟨methM', cM, hmethM', -, -, -, -, -, -, hsigM⟩ := Cond.code_spec hnamed hcode
  cases hmethM.symm.trans hmethM'
  obtain ⟨c2, r2, m2, q1, q2, q3, q4, kP, hkP, hkPi⟩ := Cond.selects_spec hsel
  cases hcls.symm.trans q1
  cases (State.methodFound?_of_named hnamed hy).symm.trans q2
  cases hnamed.symm.trans q3
  have hselP : selectMethod e.platform s.vm cellB.cls mk = .method mk := by rw [Launch.admits_selectMethod X.admits]; exact q4
  obtain ⟨vm₁, X₁, hstep₁⟩ := X.invokevirtual hexec hown hlink hnamed hmethM hstM hkP hkPi hy (a := b) (cell := cellB) hcell
    (fun z h => by rw [h] at hobj; cases hobj) hselP hmethM habM hkP hkPi (g := g) hg (argsL := argsL) (rest := rest) (hlen _ hsigM) hstack hdg
  rcases hK m meth c ⟨T.setVm vm₁, locs, cells, slots⟩ { g with stack := rest } (.invokevirtual index) mk (Value.ref b :: argsL).toArray X₁ hg hsize hdg hW (X₁.named hnamed) (hpre vm₁ X₁.warmed) with ⟨v, B, X', hpost, hsteps⟩ | ⟨q, B, X', hpost, hsteps⟩
  · exact Or.inl ⟨v, vm₁, B, X₁.warmed, X', hpost, fun target h => hstep₁ _ fun acts => by rw [doInvoke_state]; exact hsteps.trans h⟩
  · exact Or.inr ⟨q, vm₁, B, X₁.warmed, X', hpost, hstep₁ _ fun acts => by rw [doInvoke_state]; exact hsteps⟩
theorem vx_callS (X : Stand p l e R s m args below meth c T locs cells slots) (hexec : p.tables.exec = Jvm.exec) {own : String} {index : Nat} {y : MethodName} {bytes : ByteArray} {maxL : Nat} {ret : Option FieldType}
    (hown : s.vm.findClass own = some m.cls) (hlink : (Cond.methodLink own index y).before args s = true) (hstat : (Cond.static y).before args s = true) (hinit : (Cond.initialized y.cls).before args s = true)
    (hcode : (Cond.code y bytes maxL ret).before args s = true) (hy : y.cls ≠ "java/lang/invoke/MethodHandle" ∧ y.cls ≠ "java/lang/invoke/VarHandle")
    {W9 : Nat} {Pre : Pt → Array Value → Prop} {Post : Pt → Array Value → Option Value → Pt → Prop} {PostX : Pt → Array Value → Addr → Pt → Prop} (hK : vx_Back l R p e below s args y 3 W9 Pre Post PostX)
    {g : JFrame} (hg : g.method = m) (hsize : g.locals.size = c.maxLocals) {argsL rest : List Value} (hlen : ∀ sig, parseMethodDescriptor y.desc = some sig → argsL.length = sig.parameters.length)
    (hstack : g.stack = argsL.reverse ++ rest) (hW : 2 * g.monitorRoom + (rest.map fun v => v.category).sum ≤ W9) (hdg : decode c.code g.pc = .ok (.invokestatic index, 3))
    (hpre : ∀ vm₁, s.WarmedH vm₁ → Pre ⟨T.setVm vm₁, locs, cells, slots⟩ argsL.toArray) :
    (∃ (v : Option Value) (vm₁ : Vm) (B : Pt), s.WarmedH vm₁ ∧ Stand p l e R s m args below meth c B.U B.locs B.cells B.slots ∧ Post ⟨T.setVm vm₁, locs, cells, slots⟩ argsL.toArray v B ∧
      ∀ target, Steps p.tables e below (B.U.setTop { g with pc := g.pc + 3, stack := v.toList ++ rest }) target → Steps p.tables e below (T.setTop g) target) ∨
    (∃ (q : Addr) (vm₁ : Vm) (B : Pt), s.WarmedH vm₁ ∧ Stand p l e R s m args below meth c B.U B.locs B.cells B.slots ∧ PostX ⟨T.setVm vm₁, locs, cells, slots⟩ argsL.toArray q B ∧
      Steps p.tables e below (T.setTop g) ((B.U.setTop { g with stack := rest }).pushFrame (.throwing q))) := by
  obtain ⟨mk, hnamed⟩ := Cond.code_named hcode
  obtain ⟨methM, cM, hmethM, -, -, -, -, -, -, hsigM⟩ := Cond.code_spec hnamed hcode
  have hstatic : methM.isStatic = true := Cond.static_spec hnamed hmethM hstat
  obtain ⟨kP, hkP, -⟩ := className_of_methodNamed hnamed
  have hinitP : kP.init = .initialized := Cond.initialized_spec (findClass_of_methodNamed hnamed) hkP hinit
  obtain ⟨vm₁, X₁, hstep₁⟩ := X.invokestatic hexec hown hlink hnamed hmethM hstatic hkP hinitP hy (g := g) hg (argsL := argsL) (rest := rest) (hlen _ hsigM) hstack hdg
  rcases hK m meth c ⟨T.setVm vm₁, locs, cells, slots⟩ { g with stack := rest } (.invokestatic index) mk argsL.toArray X₁ hg hsize hdg hW (X₁.named hnamed) (hpre vm₁ X₁.warmed) with ⟨v, B, X', hpost, hsteps⟩ | ⟨q, B, X', hpost, hsteps⟩
  · exact Or.inl ⟨v, vm₁, B, X₁.warmed, X', hpost, fun target h => hstep₁ _ fun acts => by rw [doInvoke_state]; exact hsteps.trans h⟩
  · exact Or.inr ⟨q, vm₁, B, X₁.warmed, X', hpost, hstep₁ _ fun acts => by rw [doInvoke_state]; exact hsteps⟩
end Calls
theorem vx_cls {s : State} {T : State} {vm₁ : Vm} {E : String} {k : ClassId} (hW : s.WarmedH vm₁) (h : (T.setVm vm₁).vm.findClass E = some k) : s.vm.findClass E = some k := by
  have h1 : vm₁.findClass E = some k := h
  rw [hW.alike.findClass] at h1
  exact h1
/-- the method's frame g, with q thrown over it -/
def vx_W (p : Program) (l : Launch) (e : Env) (R : Room) (s : State) (m : MethodId) (args : Array Value) (below : List Frame) (meth : Method) (c : Code) (H : Heap) (locs : List Loc) (cells slots : Nat) (Q : State → Prop) (g : JFrame) (q : Addr) : Prop :=
  ∀ T : State, T.heap = H → Stand p l e R s m args below meth c T locs cells slots → ∃ t, Steps p.tables e below ((T.setTop g).pushFrame (.throwing q)) t ∧ Q t
def vx_Run (p : Program) (l : Launch) (e : Env) (R : Room) (s : State) (m : MethodId) (args : Array Value) (below : List Frame) (meth : Method) (c : Code) (H : Heap) (locs : List Loc) (cells slots mc ms : Nat) (g : JFrame) (rest : List Value) (Qa : State → Outcome → State → Prop) (XC : String → State → State → Prop) (free : Addr → Prop) : Prop :=
  ∀ T : State, T.heap = H → Stand p l e R s m args below meth c T locs cells slots →
    (∃ (v : Option Value) (st₀ t T' : State) (L : List Loc), st₀.heap = H ∧ Stand p l e R s m args below meth c T' (locs ++ L) (cells + mc) (slots + ms) ∧ (∀ q ∈ L, free q.base) ∧ T'.heap = t.heap ∧ T'.vm = t.vm ∧ Qa st₀ (.returned v) t ∧
      Goes p e below T g T' { g with pc := g.pc + 3, stack := v.toList ++ rest }) ∨
    (∃ (q : Addr) (st₀ t T' : State) (L : List Loc) (E : String) (ce : Cell), st₀.heap = H ∧ Stand p l e R s m args below meth c T' (locs ++ L) (cells + mc) (slots + ms) ∧ (∀ z ∈ L, free z.base) ∧ T'.heap = t.heap ∧ T'.vm = t.vm ∧ XC E st₀ t ∧ t.heap[q]? = some ce ∧ ce.vm = .none ∧ s.vm.findClass E = some ce.cls ∧
      Steps p.tables e below (T.setTop g) ((T'.setTop { g with stack := rest }).pushFrame (.throwing q)))
def vx_X {S : Type} (px : S → Prop) (B : String → S → State → Prop) (A : Nat → Prop) : String → State → State → Prop := fun E st t => ∃ u : S, px u ∧ B E u t ∧ va_F A st t
section Runs
variable {p : Program} {l : Launch} {e : Env} {R : Room} {s : State} {m : MethodId} {args : Array Value} {below : List Frame} {meth : Method} {c : Code} {H : Heap} {locs : List Loc} {cells slots : Nat}
variable {y : MethodName} {bytes cc : ByteArray} {maxL nL mc ms n index : Nat} {ret : Option FieldType} {ws : List Cond} {rm : Room} {Pc : Array Value → State → Prop} {Qc : Array Value → State → Outcome → State → Prop} {XC : String → State → State → Prop} {free : Addr → Prop} {Ts : List Cond} {own C : String} {b : Addr} {As rest : List Value} {g : JFrame}
theorem vx_callBack (cb : CallB R s args own index y bytes maxL ret ws rm mc ms n) (hM : vx_Met l y ws rm Pc Qc XC mc ms free) (hbl : FrameBlind Pc) : vx_Back l R p e below s args y 3 8 (PreOf R mc ms Pc) (PostOf Qc mc ms free) (vx_Post XC mc ms free) := by
  obtain ⟨hrc, hrs, hfr, hlo, hws, hcw, -, hini, -⟩ := cb
  exact vx_back (bytes := bytes) (maxL := maxL) (ret := ret) hM hbl hrc hrs hfr hlo hws hcw (fun a' U hW => word_at hW (Or.inl (by first | rfl | simp [Cond.onTables, Cond.keeps, Cond.steady])) hini)
theorem vx_runV (S : CallFix p m c cc nL s args Ts own) (hM : vx_Met l y ws rm Pc Qc XC mc ms free) (cw : CallW R s args own C index y bytes maxL ret ws rm mc ms n) (hp : PreV s H C b Pc As)
    (hg : g.method = m) (hn : As.length = n) (hsize : g.locals.size = nL) (hstack : g.stack = As.reverse ++ .ref b :: rest) (hW : 2 * g.monitorRoom + (rest.map fun v => v.category).sum ≤ 8) (hdg : decode cc g.pc = .ok (.invokevirtual index, 3)) (hf : cells + mc ≤ R.cells ∧ slots + ms ≤ R.slots) :
    vx_Run p l e R s m args below meth c H locs cells slots mc ms g rest (Qc (Value.ref b :: As).toArray) XC free := by
  have hK : vx_Back l R p e below s args y 3 8 (PreOf R mc ms Pc) (PostOf Qc mc ms free) (vx_Post XC mc ms free) := vx_callBack cw.1 hM hp.1
  obtain ⟨⟨-, -, -, -, -, -, hcode, -, hy, hlen, hl⟩, hin, hse⟩ := cw
  obtain ⟨hx, hb, hml, ho, -⟩ := S
  obtain ⟨-, ⟨cellB, hcB, hoB, hclB⟩, hPc⟩ := hp
  intro T hT X
  rcases vx_callV X hx (C := C) (bytes := bytes) (maxL := maxL) (ret := ret) ho hl hin hse hcode hy hK (by rw [hT]; exact hcB) hoB hclB hg (hsize.trans hml.symm) (argsL := As) (rest := rest) (fun sig h => hn.trans (hlen sig h)) hstack hW (by rw [hb]; exact hdg)
    (fun vm₁ hW₁ => ⟨hf.1, hf.2, hPc (T.setVm vm₁) hT hW₁⟩) with ⟨v, vm₁, ⟨U', l2, c2, s2⟩, hW₁, X', ⟨g', mk, t, L, e1, e2, hq, h1, hL, h2, h3⟩, st⟩ | ⟨q, vm₁, ⟨U', l2, c2, s2⟩, hW₁, X', ⟨g', mk, t, L, E, ce, e1, e2, hq, hce, hcv, hcl, h1, hL, h2, h3⟩, st⟩
  · dsimp only [Pt.U, Pt.locs, Pt.cells, Pt.slots] at X' e1 e2 h1 h2 h3 st
    subst h1; subst h2; subst h3
    exact Or.inl ⟨v, (T.setVm vm₁).calling g' mk (Value.ref b :: As).toArray, t, U', L, hT, X', hL, e1, e2, hq, st⟩
  · dsimp only [Pt.U, Pt.locs, Pt.cells, Pt.slots] at X' e1 e2 h1 h2 h3 st hcl
    subst h1; subst h2; subst h3
    exact Or.inr ⟨q, (T.setVm vm₁).calling g' mk (Value.ref b :: As).toArray, t, U', L, E, ce, hT, X', hL, e1, e2, hq, hce, hcv, vx_cls hW₁ hcl, st⟩
theorem vx_runS (S : CallFix p m c cc nL s args Ts own) (hM : vx_Met l y ws rm Pc Qc XC mc ms free) (cw : CallB R s args own index y bytes maxL ret ws rm mc ms n ∧ (Cond.static y).before args s = true) (hp : PreS s H Pc As)
    (hg : g.method = m) (hn : As.length = n) (hsize : g.locals.size = nL) (hstack : g.stack = As.reverse ++ rest) (hW : 2 * g.monitorRoom + (rest.map fun v => v.category).sum ≤ 8) (hdg : decode cc g.pc = .ok (.invokestatic index, 3)) (hf : cells + mc ≤ R.cells ∧ slots + ms ≤ R.slots) :
    vx_Run p l e R s m args below meth c H locs cells slots mc ms g rest (Qc As.toArray) XC free := by
  have hK : vx_Back l R p e below s args y 3 8 (PreOf R mc ms Pc) (PostOf Qc mc ms free) (vx_Post XC mc ms free) := vx_callBack cw.1 hM hp.1
  obtain ⟨⟨-, -, -, -, -, -, hcode, hini, hy, hlen, hl⟩, hstt⟩ := cw
  obtain ⟨hx, hb, hml, ho, -⟩ := S
  intro T hT X
  rcases vx_callS X hx (bytes := bytes) (maxL := maxL) (ret := ret) ho hl hstt hini hcode hy hK hg (hsize.trans hml.symm) (argsL := As) (rest := rest) (fun sig h => hn.trans (hlen sig h)) hstack hW (by rw [hb]; exact hdg)
    (fun vm₁ hW₁ => ⟨hf.1, hf.2, hp.2 (T.setVm vm₁) hT hW₁⟩) with ⟨v, vm₁, ⟨U', l2, c2, s2⟩, hW₁, X', ⟨g', mk, t, L, e1, e2, hq, h1, hL, h2, h3⟩, st⟩ | ⟨q, vm₁, ⟨U', l2, c2, s2⟩, hW₁, X', ⟨g', mk, t, L, E, ce, e1, e2, hq, hce, hcv, hcl, h1, hL, h2, h3⟩, st⟩
  · dsimp only [Pt.U, Pt.locs, Pt.cells, Pt.slots] at X' e1 e2 h1 h2 h3 st
    subst h1; subst h2; subst h3
    exact Or.inl ⟨v, (T.setVm vm₁).calling g' mk As.toArray, t, U', L, hT, X', hL, e1, e2, hq, st⟩
  · dsimp only [Pt.U, Pt.locs, Pt.cells, Pt.slots] at X' e1 e2 h1 h2 h3 st hcl
    subst h1; subst h2; subst h3
    exact Or.inr ⟨q, (T.setVm vm₁).calling g' mk As.toArray, t, U', L, E, ce, hT, X', hL, e1, e2, hq, hce, hcv, vx_cls hW₁ hcl, st⟩
end Runs
section Rows
variable {p : Program} {l : Launch} {e : Env} {R : Room} {s : State} {m : MethodId} {args : Array Value} {below : List Frame} {meth : Method} {c : Code} {H : Heap} {locs : List Loc} {cells slots : Nat} {Q : State → Prop}
variable {mc ms : Nat} {free : Addr → Prop} {A0 A1 : Nat → Prop} {H0 : Heap} {a : Array Value} {pc : Nat} {ls : Array Slot} {st0 rest : List Value}
theorem vx_keep {st₀ t T' : State} {L : List Loc} (h0 : st₀.heap = H) (e1 : T'.heap = t.heap) (hS : va_S A0 H0 H locs) (hA : ∀ q, q < H.size → A1 q → A0 q) (hf : ∀ q, free q → A0 q) (hL : ∀ q ∈ L, free q.base) (hF : va_F A1 st₀ t) :
    H.size ≤ T'.heap.size ∧ (∀ q : Nat, q < H.size → ¬ A1 q → T'.heap[q]? = H[q]?) ∧ va_S A0 H0 T'.heap (locs ++ L) := by
  obtain ⟨hz, hk⟩ := hF
  rw [h0] at hz hk
  exact ⟨by rw [e1]; exact hz, fun q h1 h2 => by rw [e1]; exact hk q h1 h2,
    ⟨Nat.le_trans hS.1 (by rw [e1]; exact hz), fun q h1 h2 => by rw [e1, hk q (Nat.lt_of_lt_of_le h1 hS.1) (fun z => h2 (hA q (Nat.lt_of_lt_of_le h1 hS.1) z))]; exact hS.2.1 q h1 h2, fun q hq => by
      rcases List.mem_append.mp hq with h | h
      · exact hS.2.2 q h
      · exact hf _ (hL q h)⟩⟩
theorem vx_calli {S SX : Type} {post : Int32 → S → Prop} {px : SX → Prop} {B : S → State → Prop} {BX : String → SX → State → Prop} {AX : Nat → Prop} (hr : vx_Run p l e R s m args below meth c H locs cells slots mc ms (F0 m pc ls st0) rest (va_Qi post B A1 a) (vx_X px BX AX) free) (hS : va_S A0 H0 H locs) (hA : ∀ q, q < H.size → A1 q → A0 q) (hf : ∀ q, free q → A0 q) (hAX : ∀ q, q < H.size → AX q → A0 q)
    (kx : ∀ (E : String) (ce : Cell) (q9 : Addr) (u : SX) (t : State) (H1 : Heap) (locs1 : List Loc), t.heap = H1 → s.vm.Alike t.vm → px u → BX E u t → H.size ≤ H1.size → (∀ q : Nat, q < H.size → ¬ AX q → H1[q]? = H[q]?) → va_S A0 H0 H1 locs1 → H1[q9]? = some ce → ce.vm = .none → s.vm.findClass E = some ce.cls → vx_W p l e R s m args below meth c H1 locs1 (cells + mc) (slots + ms) Q (F0 m pc ls rest) q9)
    (kk : ∀ (r : Int32) (u : S) (t : State) (H1 : Heap) (locs1 : List Loc), t.heap = H1 → s.vm.Alike t.vm → post r u → B u t → H.size ≤ H1.size → (∀ q : Nat, q < H.size → ¬ A1 q → H1[q]? = H[q]?) → va_S A0 H0 H1 locs1 → W p l e R s m args below meth c H1 locs1 (cells + mc) (slots + ms) Q (F0 m (pc + 3) ls (.int r :: rest))) : W p l e R s m args below meth c H locs cells slots Q (F0 m pc ls st0) := by
  intro T hT X
  rcases hr T hT X with ⟨v, st₀, t, T', L, h0, X', hL, e1, e2, ⟨⟨r, u, hv, hp, hb⟩, hF⟩, st⟩ | ⟨q, st₀, t, T', L, E, ce, h0, X', hL, e1, e2, ⟨u, hp, hb, hF⟩, hce, hcv, hcl, st⟩
  · cases hv
    obtain ⟨k1, k2, k3⟩ := vx_keep h0 e1 hS hA hf hL hF
    obtain ⟨t2, a1, b1⟩ := kk r u t T'.heap (locs ++ L) e1.symm (by rw [← e2]; exact X'.warmed.alike) hp hb k1 k2 k3 T' rfl X'
    exact ⟨t2, st t2 a1, b1⟩
  · obtain ⟨k1, k2, k3⟩ := vx_keep h0 e1 hS hAX hf hL hF
    obtain ⟨t2, a1, b1⟩ := kx E ce q u t T'.heap (locs ++ L) e1.symm (by rw [← e2]; exact X'.warmed.alike) hp hb k1 k2 k3 (by rw [e1]; exact hce) hcv hcl T' rfl X'
    exact ⟨t2, st.trans a1, b1⟩
theorem vx_calll {S SX : Type} {post : Int64 → S → Prop} {px : SX → Prop} {B : S → State → Prop} {BX : String → SX → State → Prop} {AX : Nat → Prop} (hr : vx_Run p l e R s m args below meth c H locs cells slots mc ms (F0 m pc ls st0) rest (va_Ql post B A1 a) (vx_X px BX AX) free) (hS : va_S A0 H0 H locs) (hA : ∀ q, q < H.size → A1 q → A0 q) (hf : ∀ q, free q → A0 q) (hAX : ∀ q, q < H.size → AX q → A0 q)
    (kx : ∀ (E : String) (ce : Cell) (q9 : Addr) (u : SX) (t : State) (H1 : Heap) (locs1 : List Loc), t.heap = H1 → s.vm.Alike t.vm → px u → BX E u t → H.size ≤ H1.size → (∀ q : Nat, q < H.size → ¬ AX q → H1[q]? = H[q]?) → va_S A0 H0 H1 locs1 → H1[q9]? = some ce → ce.vm = .none → s.vm.findClass E = some ce.cls → vx_W p l e R s m args below meth c H1 locs1 (cells + mc) (slots + ms) Q (F0 m pc ls rest) q9)
    (kk : ∀ (r : Int64) (u : S) (t : State) (H1 : Heap) (locs1 : List Loc), t.heap = H1 → s.vm.Alike t.vm → post r u → B u t → H.size ≤ H1.size → (∀ q : Nat, q < H.size → ¬ A1 q → H1[q]? = H[q]?) → va_S A0 H0 H1 locs1 → W p l e R s m args below meth c H1 locs1 (cells + mc) (slots + ms) Q (F0 m (pc + 3) ls (.long r :: rest))) : W p l e R s m args below meth c H locs cells slots Q (F0 m pc ls st0) := by
  intro T hT X
  rcases hr T hT X with ⟨v, st₀, t, T', L, h0, X', hL, e1, e2, ⟨⟨r, u, hv, hp, hb⟩, hF⟩, st⟩ | ⟨q, st₀, t, T', L, E, ce, h0, X', hL, e1, e2, ⟨u, hp, hb, hF⟩, hce, hcv, hcl, st⟩
  · cases hv
    obtain ⟨k1, k2, k3⟩ := vx_keep h0 e1 hS hA hf hL hF
    obtain ⟨t2, a1, b1⟩ := kk r u t T'.heap (locs ++ L) e1.symm (by rw [← e2]; exact X'.warmed.alike) hp hb k1 k2 k3 T' rfl X'
    exact ⟨t2, st t2 a1, b1⟩
  · obtain ⟨k1, k2, k3⟩ := vx_keep h0 e1 hS hAX hf hL hF
    obtain ⟨t2, a1, b1⟩ := kx E ce q u t T'.heap (locs ++ L) e1.symm (by rw [← e2]; exact X'.warmed.alike) hp hb k1 k2 k3 (by rw [e1]; exact hce) hcv hcl T' rfl X'
    exact ⟨t2, st.trans a1, b1⟩
theorem vx_callf {S SX : Type} {post : UInt32 → S → Prop} {px : SX → Prop} {B : S → State → Prop} {BX : String → SX → State → Prop} {AX : Nat → Prop} (hr : vx_Run p l e R s m args below meth c H locs cells slots mc ms (F0 m pc ls st0) rest (va_Qf post B A1 a) (vx_X px BX AX) free) (hS : va_S A0 H0 H locs) (hA : ∀ q, q < H.size → A1 q → A0 q) (hf : ∀ q, free q → A0 q) (hAX : ∀ q, q < H.size → AX q → A0 q)
    (kx : ∀ (E : String) (ce : Cell) (q9 : Addr) (u : SX) (t : State) (H1 : Heap) (locs1 : List Loc), t.heap = H1 → s.vm.Alike t.vm → px u → BX E u t → H.size ≤ H1.size → (∀ q : Nat, q < H.size → ¬ AX q → H1[q]? = H[q]?) → va_S A0 H0 H1 locs1 → H1[q9]? = some ce → ce.vm = .none → s.vm.findClass E = some ce.cls → vx_W p l e R s m args below meth c H1 locs1 (cells + mc) (slots + ms) Q (F0 m pc ls rest) q9)
    (kk : ∀ (r : UInt32) (u : S) (t : State) (H1 : Heap) (locs1 : List Loc), t.heap = H1 → s.vm.Alike t.vm → post r u → B u t → H.size ≤ H1.size → (∀ q : Nat, q < H.size → ¬ A1 q → H1[q]? = H[q]?) → va_S A0 H0 H1 locs1 → W p l e R s m args below meth c H1 locs1 (cells + mc) (slots + ms) Q (F0 m (pc + 3) ls (.float r :: rest))) : W p l e R s m args below meth c H locs cells slots Q (F0 m pc ls st0) := by
  intro T hT X
  rcases hr T hT X with ⟨v, st₀, t, T', L, h0, X', hL, e1, e2, ⟨⟨r, u, hv, hp, hb⟩, hF⟩, st⟩ | ⟨q, st₀, t, T', L, E, ce, h0, X', hL, e1, e2, ⟨u, hp, hb, hF⟩, hce, hcv, hcl, st⟩
  · cases hv
    obtain ⟨k1, k2, k3⟩ := vx_keep h0 e1 hS hA hf hL hF
    obtain ⟨t2, a1, b1⟩ := kk r u t T'.heap (locs ++ L) e1.symm (by rw [← e2]; exact X'.warmed.alike) hp hb k1 k2 k3 T' rfl X'
    exact ⟨t2, st t2 a1, b1⟩
  · obtain ⟨k1, k2, k3⟩ := vx_keep h0 e1 hS hAX hf hL hF
    obtain ⟨t2, a1, b1⟩ := kx E ce q u t T'.heap (locs ++ L) e1.symm (by rw [← e2]; exact X'.warmed.alike) hp hb k1 k2 k3 (by rw [e1]; exact hce) hcv hcl T' rfl X'
    exact ⟨t2, st.trans a1, b1⟩
theorem vx_calld {S SX : Type} {post : UInt64 → S → Prop} {px : SX → Prop} {B : S → State → Prop} {BX : String → SX → State → Prop} {AX : Nat → Prop} (hr : vx_Run p l e R s m args below meth c H locs cells slots mc ms (F0 m pc ls st0) rest (va_Qd post B A1 a) (vx_X px BX AX) free) (hS : va_S A0 H0 H locs) (hA : ∀ q, q < H.size → A1 q → A0 q) (hf : ∀ q, free q → A0 q) (hAX : ∀ q, q < H.size → AX q → A0 q)
    (kx : ∀ (E : String) (ce : Cell) (q9 : Addr) (u : SX) (t : State) (H1 : Heap) (locs1 : List Loc), t.heap = H1 → s.vm.Alike t.vm → px u → BX E u t → H.size ≤ H1.size → (∀ q : Nat, q < H.size → ¬ AX q → H1[q]? = H[q]?) → va_S A0 H0 H1 locs1 → H1[q9]? = some ce → ce.vm = .none → s.vm.findClass E = some ce.cls → vx_W p l e R s m args below meth c H1 locs1 (cells + mc) (slots + ms) Q (F0 m pc ls rest) q9)
    (kk : ∀ (r : UInt64) (u : S) (t : State) (H1 : Heap) (locs1 : List Loc), t.heap = H1 → s.vm.Alike t.vm → post r u → B u t → H.size ≤ H1.size → (∀ q : Nat, q < H.size → ¬ A1 q → H1[q]? = H[q]?) → va_S A0 H0 H1 locs1 → W p l e R s m args below meth c H1 locs1 (cells + mc) (slots + ms) Q (F0 m (pc + 3) ls (.double r :: rest))) : W p l e R s m args below meth c H locs cells slots Q (F0 m pc ls st0) := by
  intro T hT X
  rcases hr T hT X with ⟨v, st₀, t, T', L, h0, X', hL, e1, e2, ⟨⟨r, u, hv, hp, hb⟩, hF⟩, st⟩ | ⟨q, st₀, t, T', L, E, ce, h0, X', hL, e1, e2, ⟨u, hp, hb, hF⟩, hce, hcv, hcl, st⟩
  · cases hv
    obtain ⟨k1, k2, k3⟩ := vx_keep h0 e1 hS hA hf hL hF
    obtain ⟨t2, a1, b1⟩ := kk r u t T'.heap (locs ++ L) e1.symm (by rw [← e2]; exact X'.warmed.alike) hp hb k1 k2 k3 T' rfl X'
    exact ⟨t2, st t2 a1, b1⟩
  · obtain ⟨k1, k2, k3⟩ := vx_keep h0 e1 hS hAX hf hL hF
    obtain ⟨t2, a1, b1⟩ := kx E ce q u t T'.heap (locs ++ L) e1.symm (by rw [← e2]; exact X'.warmed.alike) hp hb k1 k2 k3 (by rw [e1]; exact hce) hcv hcl T' rfl X'
    exact ⟨t2, st.trans a1, b1⟩
theorem vx_callv {S SX : Type} {post : S → Prop} {px : SX → Prop} {B : S → State → Prop} {BX : String → SX → State → Prop} {AX : Nat → Prop} (hr : vx_Run p l e R s m args below meth c H locs cells slots mc ms (F0 m pc ls st0) rest (va_Qv post B A1 a) (vx_X px BX AX) free) (hS : va_S A0 H0 H locs) (hA : ∀ q, q < H.size → A1 q → A0 q) (hf : ∀ q, free q → A0 q) (hAX : ∀ q, q < H.size → AX q → A0 q)
    (kx : ∀ (E : String) (ce : Cell) (q9 : Addr) (u : SX) (t : State) (H1 : Heap) (locs1 : List Loc), t.heap = H1 → s.vm.Alike t.vm → px u → BX E u t → H.size ≤ H1.size → (∀ q : Nat, q < H.size → ¬ AX q → H1[q]? = H[q]?) → va_S A0 H0 H1 locs1 → H1[q9]? = some ce → ce.vm = .none → s.vm.findClass E = some ce.cls → vx_W p l e R s m args below meth c H1 locs1 (cells + mc) (slots + ms) Q (F0 m pc ls rest) q9)
    (kk : ∀ (u : S) (t : State) (H1 : Heap) (locs1 : List Loc), t.heap = H1 → s.vm.Alike t.vm → post u → B u t → H.size ≤ H1.size → (∀ q : Nat, q < H.size → ¬ A1 q → H1[q]? = H[q]?) → va_S A0 H0 H1 locs1 → W p l e R s m args below meth c H1 locs1 (cells + mc) (slots + ms) Q (F0 m (pc + 3) ls (rest))) : W p l e R s m args below meth c H locs cells slots Q (F0 m pc ls st0) := by
  intro T hT X
  rcases hr T hT X with ⟨v, st₀, t, T', L, h0, X', hL, e1, e2, ⟨⟨u, hv, hp, hb⟩, hF⟩, st⟩ | ⟨q, st₀, t, T', L, E, ce, h0, X', hL, e1, e2, ⟨u, hp, hb, hF⟩, hce, hcv, hcl, st⟩
  · cases hv
    obtain ⟨k1, k2, k3⟩ := vx_keep h0 e1 hS hA hf hL hF
    obtain ⟨t2, a1, b1⟩ := kk u t T'.heap (locs ++ L) e1.symm (by rw [← e2]; exact X'.warmed.alike) hp hb k1 k2 k3 T' rfl X'
    exact ⟨t2, st t2 a1, b1⟩
  · obtain ⟨k1, k2, k3⟩ := vx_keep h0 e1 hS hAX hf hL hF
    obtain ⟨t2, a1, b1⟩ := kx E ce q u t T'.heap (locs ++ L) e1.symm (by rw [← e2]; exact X'.warmed.alike) hp hb k1 k2 k3 (by rw [e1]; exact hce) hcv hcl T' rfl X'
    exact ⟨t2, st.trans a1, b1⟩
end Rows
section Ends
variable {p : Program} {l : Launch} {e : Env} {R : Room} {s : State} {m : MethodId} {args : Array Value} {below : List Frame} {meth : Method} {c : Code} {H : Heap} {locs : List Loc} {cells slots : Nat} {Q : State → Prop}
variable {mc ms : Nat} {free : Addr → Prop} {A0 A1 : Nat → Prop} {H0 : Heap} {a : Array Value} {ls : Array Slot} {st0 rest : List Value}
variable {Qc : Array Value → State → Outcome → State → Prop} {XC : String → State → State → Prop}
/-- what a body that may throw owes at its end -/
def vx_MQ (below : List Frame) (Qc : Array Value → State → Outcome → State → Prop) (XC : String → State → State → Prop) (a : Array Value) (s : State) (mc ms : Nat) (free : Addr → Prop) : State → Prop := fun t =>
  ∃ o, t.status = .running ∧ Ended t below o ∧ vx_Q Qc XC mc ms free a s o t
theorem vx_ret {g : JFrame} {mc ms : Nat} (k : W p l e R s m args below meth c H locs cells slots (MQ below Qc args s mc ms free) g) : W p l e R s m args below meth c H locs cells slots (vx_MQ below Qc XC args s mc ms free) g := by
  intro T hT X
  obtain ⟨t, a1, o, b1, b2, b3, b4⟩ := k T hT X
  exact ⟨t, a1, o, b1, b2, Or.inl ⟨b3, b4⟩⟩
/-- not caught here: it goes on to the caller -/
theorem vx_widen {g : JFrame} {q : Addr} {k n : Nat} (h1 : cells ≤ k) (h2 : slots ≤ n) (kk : vx_W p l e R s m args below meth c H locs k n Q g q) : vx_W p l e R s m args below meth c H locs cells slots Q g q := fun T hT X => kk T hT (stand_widen X h1 h2)
theorem vx_out {pc : Nat} {E : String} {ce : Cell} {q : Addr} {mc ms : Nat} (hout : ∀ x ∈ c.exceptionTable.toList, covers x pc = false) (hlocks : meth.locks = false) (hcell : H[q]? = some ce) (hv : ce.vm = .none) (hcl : s.vm.findClass E = some ce.cls)
    (hx : ∀ t : State, t.heap = H → s.vm.Alike t.vm → XC E s t) (hf : ∀ z ∈ locs, free z.base) (hc : cells ≤ mc) (hs : slots ≤ ms) :
    vx_W p l e R s m args below meth c H locs cells slots (vx_MQ below Qc XC args s mc ms free) (F0 m pc ls rest) q := by
  intro T hT X
  obtain ⟨st1, hrun, hend, hW, hsm⟩ := X.leaveThrown q (g := F0 m pc ls rest) rfl rfl rfl hout hlocks
  have hcell9 : (T.setFrames (.throwing q :: below)).heap[q]? = some ce := by
    show T.heap[q]? = some ce
    rw [hT]; exact hcell
  exact ⟨_, st1, .threw q, hrun, hend, Or.inr ⟨q, rfl, E, ce, locs, hx _ hT hW.alike, hcell9, hv, hcl, hW, hsm.mono hc hs, hf⟩⟩
theorem vx_frame {U : State} {k n : Nat} (h : s.sameButNew ({ U with vm := s.vm } : State) locs k n) : s.heap.size ≤ U.heap.size ∧ ∀ q : Nat, q < s.heap.size → (∀ z ∈ locs, z.base ≠ q) → U.heap[q]? = s.heap[q]? := by
  obtain ⟨-, h2, -, -, -, h6⟩ := h
  refine ⟨h2, fun q hq hz => ?_⟩
  obtain ⟨c9, e1, e2, e3, e4⟩ := h6 q _ (Array.getElem?_eq_getElem hq)
  have hs : c9.slots = (s.heap[q]).slots := Array.ext_getElem? fun i => e4 i fun hm => hz _ hm rfl
  have h9 : c9 = s.heap[q] := by
    rw [hs] at e2
    exact e2
  have e5 : U.heap[q]? = some c9 := e1
  rw [e5, h9, Array.getElem?_eq_getElem hq]
/-- the words of a throw but the four that speak of the heap -/
def vx_no (w : Cond) : Bool := decide (w ≠ .isRef (.static Bundle.tN "UNASSIGNED_STACK" Bundle.steD)) && decide (w ≠ .isRef (.static Bundle.tN "SUPPRESSED_SENTINEL" Bundle.listD)) && decide (w ≠ .laysStatic Bundle.tN "UNASSIGNED_STACK" Bundle.steD) && decide (w ≠ .laysStatic Bundle.tN "SUPPRESSED_SENTINEL" Bundle.listD)
def vx_at0 (own : String) (ic : Nat) (X : String) (names : List String) : List Cond := (Bundle.ownAtoms0 own ic X names).filter vx_no
def vx_atS (own : String) (ic : Nat) (X : String) (names : List String) : List Cond := (Bundle.ownAtoms own ic X names).filter vx_no
/-- a word that the tables alone decide, or a good one -/
def vx_ot (w : Cond) : Bool := w.onTables || goodWord w
theorem vx_ot_at {args a' : Array Value} {s U : State} {w : Cond} (hW : s.WarmedH U.vm) (hvm : s.vm = U.vm) (hg : vx_ot w = true) (h : w.before args s = true) : w.before a' U = true := by
  simp only [vx_ot, Bool.or_eq_true] at hg
  rcases hg with hg | hg
  · exact va_tabs hg hvm h
  · exact word_at hW (good_of_word hg) h
/-- a list's words: the good ones out of the method's own list, the others by premises of their own -/
theorem vx_hat {args : Array Value} {s : State} {L B : List Cond} (h1 : ∀ w ∈ L.filter goodWord, w.before args s = true) (h2 : ∀ w ∈ L.filter (fun w => !goodWord w), w ∈ B) (h3 : ∀ w ∈ B, w.before args s = true) : ∀ w ∈ L, w.before args s = true := by
  intro w hw
  by_cases g : goodWord w = true
  · exact h1 w (List.mem_filter.mpr ⟨hw, g⟩)
  · refine h3 w (h2 w (List.mem_filter.mpr ⟨hw, ?_⟩))
    show (!goodWord w) = true
    cases hgw : goodWord w
    · rfl
    · exact absurd hgw g
theorem vx_c {args : Array Value} {s : State} {w : Cond} {B : List Cond} (h : w.before args s = true) (t : ∀ w ∈ B, w.before args s = true) : ∀ w' ∈ w :: B, w'.before args s = true := fun w' h' => (List.mem_cons.mp h').elim (fun e => by rw [e]; exact h) (t w')
theorem vx_n {args : Array Value} {s : State} : ∀ w ∈ ([] : List Cond), w.before args s = true := fun _ h => nomatch h
theorem vx_own {args : Array Value} {s : State} {L : List Cond} (h1 : ∀ w ∈ L.filter vx_no, w.before args s = true)
    (hU : (Cond.isRef (.static Bundle.tN "UNASSIGNED_STACK" Bundle.steD)).before args s = true) (hN : (Cond.isRef (.static Bundle.tN "SUPPRESSED_SENTINEL" Bundle.listD)).before args s = true)
    (lU : (Cond.laysStatic Bundle.tN "UNASSIGNED_STACK" Bundle.steD).before args s = true) (lN : (Cond.laysStatic Bundle.tN "SUPPRESSED_SENTINEL" Bundle.listD).before args s = true) : ∀ w ∈ L, w.before args s = true := by
  intro w hw
  by_cases e1 : w = .isRef (.static Bundle.tN "UNASSIGNED_STACK" Bundle.steD)
  · rw [e1]; exact hU
  · by_cases e2 : w = .isRef (.static Bundle.tN "SUPPRESSED_SENTINEL" Bundle.listD)
    · rw [e2]; exact hN
    · by_cases e3 : w = .laysStatic Bundle.tN "UNASSIGNED_STACK" Bundle.steD
      · rw [e3]; exact lU
      · by_cases e4 : w = .laysStatic Bundle.tN "SUPPRESSED_SENTINEL" Bundle.listD
        · rw [e4]; exact lN
        · exact h1 w (List.mem_filter.mpr ⟨hw, by unfold vx_no; rw [decide_eq_true e1, decide_eq_true e2, decide_eq_true e3, decide_eq_true e4]; rfl⟩)
/-- where a static field lies, its class's statics cell in H -/
def vx_L (C n d : String) (A : Nat → Prop) (U : State) (H : Heap) : Prop := ∃ (c : ClassId) (k : Class) (i : Nat) (f : Field) (a : Nat) (cell : Cell), U.vm.findClass C = some c ∧ U.fieldFound? C n d = some (c, k, i, f) ∧ f.isStatic = true ∧ k.statics = some a ∧ H[a]? = some cell ∧ cell.vm.isStatics = true ∧ cell.cls = c ∧ f.slot < cell.slots.size ∧ k.staticTypes[f.slot]? = some f.type ∧ ¬ A a
theorem vx_L.moved {C n d : String} {A : Nat → Prop} {u U : State} {H : Heap} (hvm : u.vm.Alike U.vm) (h : vx_L C n d A u H) : vx_L C n d A U H := by
  obtain ⟨c, k, i, f, a, cell, h1, h2, h3, h4, h5, h6, h7, h8, h9, h10⟩ := h
  obtain ⟨k', hi', he⟩ := State.fieldFound?_setVm hvm h2
  exact ⟨c, k', i, f, a, cell, by rw [hvm.findClass]; exact h1, hi', h3, by rw [he]; exact h4, h5, h6, h7, h8, by rw [he]; exact h9, h10⟩
theorem vx_L.kept {C n d : String} {A : Nat → Prop} {U : State} {H H1 : Heap} (h : vx_L C n d A U H) (hq : ∀ a : Nat, a < H.size → ¬ A a → H1[a]? = H[a]?) : vx_L C n d A U H1 := by
  obtain ⟨c, k, i, f, a, cell, h1, h2, h3, h4, h5, h6, h7, h8, h9, h10⟩ := h
  exact ⟨c, k, i, f, a, cell, h1, h2, h3, h4, by rw [hq a (Array.getElem?_eq_some_iff.mp h5).1 h10]; exact h5, h6, h7, h8, h9, h10⟩
theorem vx_L.narrow {C n d : String} {A B : Nat → Prop} {U : State} {H : Heap} (h : vx_L C n d A U H) (hAB : ∀ q, B q → A q) : vx_L C n d B U H := by
  obtain ⟨c, k, i, f, a, cell, h1, h2, h3, h4, h5, h6, h7, h8, h9, h10⟩ := h
  exact ⟨c, k, i, f, a, cell, h1, h2, h3, h4, h5, h6, h7, h8, h9, fun z => h10 (hAB _ z)⟩
theorem vx_L.word {C n d : String} {A : Nat → Prop} {s : State} {args : Array Value} (h : vx_L C n d A s s.heap) : (Cond.laysStatic C n d).before args s = true := by
  obtain ⟨c, k, i, f, a, cell, h1, h2, h3, h4, h5, h6, h7, h8, h9, -⟩ := h
  show (Cond.laysStatic C n d).holds args s none s [] = true
  exact Cond.laysStatic_of h1 h2 h3 h4 h5 h6 h7 h8 h9
/-- .. and what it holds: null or some reference -/
def vx_Zq (C n d : String) (A : Nat → Prop) (U : State) (H : Heap) : Prop := va_Zq C n d A U H ∧ vx_L C n d A U H
theorem vx_Zq.moved {C n d : String} {A : Nat → Prop} {u U : State} {H : Heap} (hvm : u.vm.Alike U.vm) (h : vx_Zq C n d A u H) : vx_Zq C n d A U H := ⟨va_Zq.moved hvm h.1, vx_L.moved hvm h.2⟩
theorem vx_Zq.kept {C n d : String} {A : Nat → Prop} {U : State} {H H1 : Heap} (h : vx_Zq C n d A U H) (hq : ∀ a : Nat, a < H.size → ¬ A a → H1[a]? = H[a]?) : vx_Zq C n d A U H1 := ⟨va_Zq.kept h.1 hq, vx_L.kept h.2 hq⟩
theorem vx_Zq.narrow {C n d : String} {A B : Nat → Prop} {U : State} {H : Heap} (h : vx_Zq C n d A U H) (hAB : ∀ q, B q → A q) : vx_Zq C n d B U H := ⟨va_Zq.narrow h.1 hAB, vx_L.narrow h.2 hAB⟩
theorem vx_Zqof {args : Array Value} {s : State} {C n d : String} {A : Nat → Prop} (hl : (Cond.laysStatic C n d).before args s = true) (hini : (Cond.initialized C).before args s = true) (h : (Cond.isRef (.static C n d)).before args s = true) (hA : ∀ a : Nat, a < s.heap.size → ¬ A a) : vx_Zq C n d A s s.heap := by
  refine ⟨va_Zqof hl hini h hA, ?_⟩
  obtain ⟨c, k, i, f, a, cell, h1, h2, h3, h4, h5, h6, h7, h8, h9⟩ := Cond.laysStatic_spec hl
  exact ⟨c, k, i, f, a, cell, h1, h2, h3, h4, h5, h6, h7, h8, h9, hA a (Array.getElem?_eq_some_iff.mp h5).1⟩
theorem vx_isRef {C n d : String} {v : Value} {A : Nat → Prop} {s : State} {args : Array Value} (h : va_Z C n d v A s s.heap) (hv : v.isRef = true) : (Cond.isRef (.static C n d)).before args s = true := by
  obtain ⟨cf, kf, fi, f, a, cell, h1, h2, h3, h4, h5, h6, h7, -⟩ := h
  have he : (Term.static C n d).eval args s none [] s = some v := by
    simp [Term.eval, State.fieldNamed?, h1, h2, h4, h5, h6, h7]
  simp only [Cond.before, Cond.holds, Cond.value, he]
  cases v <;> simp_all [Value.isRef]
theorem vx_isRefq {C n d : String} {A : Nat → Prop} {s : State} {args : Array Value} (h : va_Zq C n d A s s.heap) : (Cond.isRef (.static C n d)).before args s = true := by
  rcases h with h | ⟨t, h⟩
  · exact vx_isRef h rfl
  · exact vx_isRef h rfl
/-- the same frame, seen from here: as if the method were called anew in this heap -/
theorem vx_rebase {T : State} (X : Stand p l e R s m args below meth c T locs cells slots) {R' : Room} (hf : R'.frames ≤ R.frames) (hl : R'.locals ≤ R.locals) (hc : cells + R'.cells ≤ R.cells) (hs : slots + R'.slots ≤ R.slots) :
    Stand p l e R' ((T.setVm s.vm).setFrames (.invoking m args :: below)) m args below meth c T [] 0 0 := by
  have htop : (T.setVm s.vm).topJava?.isSome := X.here.top
  have hF : ((T.setVm s.vm).setFrames (.invoking m args :: below)).frames = .invoking m args :: below := State.frames_setFrames _ (State.cur_lt_of_top htop)
  obtain ⟨g₀, hg0⟩ := Option.isSome_iff_exists.mp htop
  obtain ⟨r, hr⟩ := State.topJava?_eq_some.mp hg0
  have hl9 : e.platform.stackLimits (T.setVm s.vm).me = e.platform.stackLimits s.me := X.limits
  have hb9 : (T.setVm s.vm).me.stackBytes = s.me.stackBytes := X.bytes
  refine ⟨X.admits, X.cas, X.clock, hF, ?_, X.hears, X.method, X.code, X.here, X.tail, X.warmed, ?_, ?_, ?_⟩
  · have h := X.room
    have hU : ((T.setVm s.vm).setFrames (.invoking m args :: below)).localsInUse = s.localsInUse := by
      rw [State.localsInUse_invoking hF (meth := meth) (c := c) X.method X.code, State.localsInUse_invoking X.frames X.method X.code]
    simp only [State.hasRoom, Bool.and_eq_true, decide_eq_true_eq] at h ⊢
    obtain ⟨⟨⟨⟨h1, h2, h3, h4, h5, h6⟩, h7⟩, h8⟩, h9⟩ := h
    rw [X.frames, List.length_cons] at h2 h3
    have q1 := X.heapSize
    have q2 := X.used
    simp only [hF, hU, List.length_cons, State.stackLimits_setFrames, State.stackBytes_setFrames, hl9, hb9]
    refine ⟨⟨⟨⟨by omega, by omega, by omega, by omega, by omega, h6⟩, ?_⟩, ?_⟩, X.book⟩
    · show T.heap.size + R'.cells ≤ e.platform.maxCells
      omega
    · show T.slotsUsed + R'.slots ≤ e.platform.maxSlots
      omega
  · rw [State.stackLimits_setFrames]; rfl
  · rw [State.stackBytes_setFrames]; rfl
  · refine ⟨?_, Nat.le_refl _, Nat.le_refl _, ?_, ?_, fun a c9 h9 => ⟨c9, h9, rfl, rfl, fun _ _ => rfl⟩⟩
    · obtain ⟨t, ht, -⟩ := State.frames_cons hr
      show T.setVm s.vm = { ((T.setVm s.vm).setFrames (.invoking m args :: below)).setFrames (T.setVm s.vm).frames with heap := T.heap, slotsUsed := T.slotsUsed }
      rw [State.setFrames_setFrames, State.setFrames_self ht]
      rfl
    · show T.slotsUsed = T.slotsUsed + ((T.heap.toList.drop T.heap.size).map (·.slots.size)).sum
      rw [List.drop_eq_nil_of_le (Nat.le_of_eq Array.length_toList)]
      rfl
    · show ((T.heap.toList.drop T.heap.size).map (·.slots.size)).sum ≤ 0
      rw [List.drop_eq_nil_of_le (Nat.le_of_eq Array.length_toList)]
      exact Nat.le_refl _
/-- 'throw new E()': new; dup; invokespecial; athrow -/
theorem vx_throw0 {cc : ByteArray} {pc : Nat} (hexec : p.tables.exec = Jvm.exec) (hb : c.code = cc) (hl : l.stackTraces = false) {own cls : String} {names : List String} {ik ic mc ms : Nat} {A : Nat → Prop}
    (hown : s.vm.findClass own = some m.cls) (hcls : Bundle.fit cls = true) (hnames : ∀ n ∈ names, Bundle.fit n = true)
    (hk : (Cond.classLink own ik cls).before args s = true) (hini : (Cond.initialized cls).before args s = true) (hat : ∀ w ∈ vx_at0 own ic cls names, w.before args s = true)
    (hgood : ∀ w ∈ Cond.classLink own ik cls :: Cond.initialized cls :: vx_at0 own ic cls names, vx_ot w = true)
    (hU : vx_Zq Bundle.tN "UNASSIGNED_STACK" Bundle.steD A s s.heap) (hN : vx_Zq Bundle.tN "SUPPRESSED_SENTINEL" Bundle.listD A s s.heap) (hS : va_S A s.heap H locs) (hsize : ls.size = c.maxLocals)
    (d0 : decode cc pc = .ok (.new ik, 3)) (d3 : decode cc (pc + 3) = .ok (.dup, 1)) (d4 : decode cc (pc + 4) = .ok (.invokespecial ic, 3)) (d7 : decode cc (pc + 7) = .ok (.athrow, 1))
    (hout : ∀ x ∈ c.exceptionTable.toList, covers x (pc + 7) = false)
    (hRframes : names.length + 3 < R.frames) (hRlocals : (rest.map fun v => v.category).sum + (13 * (names.length + 1) + 42) ≤ R.locals) (hRcells : cells + 1 ≤ R.cells) (hRslots : slots + 6 ≤ R.slots) (hlocks : meth.locks = false)
    (hx : ∀ t : State, s.vm.Alike t.vm → H.size ≤ t.heap.size → (∀ q : Nat, q < H.size → t.heap[q]? = H[q]?) → XC cls s t)
    (hf : ∀ z ∈ locs, free z.base) (hc : cells + 1 ≤ mc) (hs : slots + 6 ≤ ms) :
    W p l e R s m args below meth c H locs cells slots (vx_MQ below Qc XC args s mc ms free) (F0 m pc ls rest) := by
  intro T hT X
  have htr : e.platform.stackTraces = false := (show e.platform.stackTraces = l.stackTraces by rw [X.admits.platform]).trans hl
  have Y := vx_rebase X (R' := { frames := R.frames, locals := R.locals, cells := 1, slots := 6 }) (Nat.le_refl _) (Nat.le_refl _) hRcells hRslots
  obtain ⟨s', hA⟩ : ∃ z, z = (T.setVm s.vm).setFrames (.invoking m args :: below) := ⟨_, rfl⟩
  rw [← hA] at Y
  have hvm : s'.vm = s.vm := by rw [hA]; rfl
  have hhp : s'.heap = H := by rw [hA]; exact hT
  have hW0 : s.WarmedH s'.vm := by rw [hvm]; exact State.WarmedH.refl s
  have hat' : ∀ w ∈ vx_at0 own ic cls names, w.before args s' = true := fun w hw => vx_ot_at hW0 hvm.symm (hgood w (List.mem_cons_of_mem _ (List.mem_cons_of_mem _ hw))) (hat w hw)
  have hk' : (Cond.classLink own ik cls).before args s' = true := vx_ot_at hW0 hvm.symm (hgood _ List.mem_cons_self) hk
  have hini' : (Cond.initialized cls).before args s' = true := vx_ot_at hW0 hvm.symm (hgood _ (List.mem_cons_of_mem _ List.mem_cons_self)) hini
  have hU' : vx_Zq Bundle.tN "UNASSIGNED_STACK" Bundle.steD A s' s'.heap := by rw [hhp]; exact vx_Zq.moved hW0.alike (hU.kept hS.2.1)
  have hN' : vx_Zq Bundle.tN "SUPPRESSED_SENTINEL" Bundle.listD A s' s'.heap := by rw [hhp]; exact vx_Zq.moved hW0.alike (hN.kept hS.2.1)
  have h : ∀ w ∈ Bundle.ownAtoms0 own ic cls names, w.before args s' = true := vx_own hat' (vx_isRefq hU'.1) (vx_isRefq hN'.1) hU'.2.word hN'.2.word
  have hown' : s'.vm.findClass own = some m.cls := by rw [hvm]; exact hown
  have hins : (Cond.instantiable cls 6).before args s' = true := h _ (by simp [Bundle.ownAtoms0])
  obtain ⟨vm₁, cX, kX, hfX, hkX, -, -, X₁, st1⟩ := Y.newCold hexec (own := own) (C := cls) (index := ik) (n := 6) hown' hk' hins hini'
    (g := F0 m pc ls rest) rfl (by rw [hb]; exact d0) (Nat.le_refl _) (Nat.le_refl _)
  generalize hT1 : (T.setVm vm₁).pushCell { cls := cX, slots := kX.instanceTypes.map defaultValue, vm := .none } = T1 at X₁ st1
  have hcat : (Value.ref T.heap.size).category = 1 := rfl
  have hcellA : T1.heap[T.heap.size]? = some (freshCell cX kX) := by rw [← hT1]; exact State.heap_pushCell_size _ _
  have d3' : decode c.code (pc + 3) = .ok (.dup, 1) := by rw [hb]; exact d3
  obtain ⟨U, hsteps, hrun, hend, hW, hsame, ce, hce, hO⟩ := X₁.ctorThrow0 hexec htr (own := own) (cls := cls) (names := names) (ic := ic) hown' hcls hnames h (fun x hx => nomatch hx) hfX hkX hcellA (by rw [hhp, hT]; exact Nat.le_refl _)
    (g := { method := m, pc := pc + 4, locals := ls, stack := .ref T.heap.size :: .ref T.heap.size :: rest, locked := none }) rfl hsize rfl rfl (rest := rest) rfl
    (by rw [hb]; exact d4) (by rw [hb]; exact d7) hout hRframes (by simp only [List.map_cons, List.sum_cons, hcat]; omega) hlocks
  obtain ⟨f1, f2⟩ := vx_frame hsame
  rw [hhp] at f1 f2
  have hWs : s.WarmedH U.vm := State.WarmedH.trans hW0 hW
  have hcl : s.vm.findClass cls = some ce.cls := by
    have h9 := hO.cls
    rw [hvm] at h9
    exact h9
  have hall : s.sameButNew ({ U with vm := s.vm } : State) locs mc ms := by
    subst hA
    obtain ⟨e1, e2⟩ := hsame
    rw [State.setFrames_setFrames] at e1
    have h2 : (T.setVm s.vm).sameButNew ({ U with vm := s.vm } : State) [] (0 + 1) (0 + 6) := ⟨e1, e2⟩
    have h3 := X.same.trans h2
    rw [List.append_nil] at h3
    exact h3.mono hc hs
  refine ⟨U, ?_, .threw T.heap.size, hrun, hend, Or.inr ⟨T.heap.size, rfl, cls, ce, locs, hx U hWs.alike f1 (fun q hq => f2 q hq (fun z hz => nomatch hz)), hce, hO.vm, hcl, hWs, hall, hf⟩⟩
  refine st1 _ ?_
  show Steps p.tables e below (T1.setTop { method := m, pc := pc + 3, locals := ls, stack := .ref T.heap.size :: rest, locked := none }) _
  jvm_step X₁.here [X₁.here.top, hexec, d3', Value.category]
  exact hsteps
/-- 'throw new E("text")': new; dup; ldc; invokespecial; athrow -/
theorem vx_throwS {cc : ByteArray} {pc : Nat} (hexec : p.tables.exec = Jvm.exec) (hb : c.code = cc) (hl : l.stackTraces = false) {own cls text : String} {names : List String} {ik is ic mc ms sa : Nat} {A : Nat → Prop}
    (hown : s.vm.findClass own = some m.cls) (hcls : Bundle.fit cls = true) (hnames : ∀ n ∈ names, Bundle.fit n = true)
    (hk : (Cond.classLink own ik cls).before args s = true) (hini : (Cond.initialized cls).before args s = true) (hstr : vk_R own is text sa s) (hat : ∀ w ∈ vx_atS own ic cls names, w.before args s = true)
    (hgood : ∀ w ∈ Cond.classLink own ik cls :: Cond.initialized cls :: vx_atS own ic cls names, vx_ot w = true)
    (hU : vx_Zq Bundle.tN "UNASSIGNED_STACK" Bundle.steD A s s.heap) (hN : vx_Zq Bundle.tN "SUPPRESSED_SENTINEL" Bundle.listD A s s.heap) (hS : va_S A s.heap H locs) (hsize : ls.size = c.maxLocals)
    (d0 : decode cc pc = .ok (.new ik, 3)) (d3 : decode cc (pc + 3) = .ok (.dup, 1)) (d4 : decode cc (pc + 4) = .ok (.ldc is, 2)) (d6 : decode cc (pc + 6) = .ok (.invokespecial ic, 3)) (d9 : decode cc (pc + 9) = .ok (.athrow, 1))
    (hout : ∀ x ∈ c.exceptionTable.toList, covers x (pc + 9) = false)
    (hRframes : names.length + 3 < R.frames) (hRlocals : (rest.map fun v => v.category).sum + (13 * (names.length + 1) + 43) ≤ R.locals) (hRcells : cells + 1 ≤ R.cells) (hRslots : slots + 6 ≤ R.slots) (hlocks : meth.locks = false)
    (hx : ∀ t : State, s.vm.Alike t.vm → H.size ≤ t.heap.size → (∀ q : Nat, q < H.size → t.heap[q]? = H[q]?) → XC cls s t)
    (hf : ∀ z ∈ locs, free z.base) (hc : cells + 1 ≤ mc) (hs : slots + 6 ≤ ms) :
    W p l e R s m args below meth c H locs cells slots (vx_MQ below Qc XC args s mc ms free) (F0 m pc ls rest) := by
  intro T hT X
  have htr : e.platform.stackTraces = false := (show e.platform.stackTraces = l.stackTraces by rw [X.admits.platform]).trans hl
  have Y := vx_rebase X (R' := { frames := R.frames, locals := R.locals, cells := 1, slots := 6 }) (Nat.le_refl _) (Nat.le_refl _) hRcells hRslots
  obtain ⟨s', hA⟩ : ∃ z, z = (T.setVm s.vm).setFrames (.invoking m args :: below) := ⟨_, rfl⟩
  rw [← hA] at Y
  have hvm : s'.vm = s.vm := by rw [hA]; rfl
  have hhp : s'.heap = H := by rw [hA]; exact hT
  have hW0 : s.WarmedH s'.vm := by rw [hvm]; exact State.WarmedH.refl s
  have hat' : ∀ w ∈ vx_atS own ic cls names, w.before args s' = true := fun w hw => vx_ot_at hW0 hvm.symm (hgood w (List.mem_cons_of_mem _ (List.mem_cons_of_mem _ hw))) (hat w hw)
  have hk' : (Cond.classLink own ik cls).before args s' = true := vx_ot_at hW0 hvm.symm (hgood _ List.mem_cons_self) hk
  have hini' : (Cond.initialized cls).before args s' = true := vx_ot_at hW0 hvm.symm (hgood _ (List.mem_cons_of_mem _ List.mem_cons_self)) hini
  have hU' : vx_Zq Bundle.tN "UNASSIGNED_STACK" Bundle.steD A s' s'.heap := by rw [hhp]; exact vx_Zq.moved hW0.alike (hU.kept hS.2.1)
  have hN' : vx_Zq Bundle.tN "SUPPRESSED_SENTINEL" Bundle.listD A s' s'.heap := by rw [hhp]; exact vx_Zq.moved hW0.alike (hN.kept hS.2.1)
  have h : ∀ w ∈ Bundle.ownAtoms own ic cls names, w.before args s' = true := vx_own hat' (vx_isRefq hU'.1) (vx_isRefq hN'.1) hU'.2.word hN'.2.word
  have hown' : s'.vm.findClass own = some m.cls := by rw [hvm]; exact hown
  have hins : (Cond.instantiable cls 6).before args s' = true := h _ (by simp [Bundle.ownAtoms])
  obtain ⟨vm₁, cX, kX, hfX, hkX, -, -, X₁, st1⟩ := Y.newCold hexec (own := own) (C := cls) (index := ik) (n := 6) hown' hk' hins hini'
    (g := F0 m pc ls rest) rfl (by rw [hb]; exact d0) (Nat.le_refl _) (Nat.le_refl _)
  generalize hT1 : (T.setVm vm₁).pushCell { cls := cX, slots := kX.instanceTypes.map defaultValue, vm := .none } = T1 at X₁ st1
  have hcat : (Value.ref T.heap.size).category = 1 := rfl
  have hcellA : T1.heap[T.heap.size]? = some (freshCell cX kX) := by rw [← hT1]; exact State.heap_pushCell_size _ _
  have d3' : decode c.code (pc + 3) = .ok (.dup, 1) := by rw [hb]; exact d3
  have d4' : decode c.code (pc + 4) = .ok (.ldc is, 2) := by rw [hb]; exact d4
  have hstr' : vk_R own is text sa s' := vk_R.warm hW0 hstr
  obtain ⟨U, hsteps, hrun, hend, hW, hsame, ce, hce, hO⟩ := X₁.ctorThrowS hexec htr (own := own) (cls := cls) (names := names) (ic := ic) hown' hcls hnames h (fun x hx => nomatch hx) hfX hkX hcellA (by rw [hhp, hT]; exact Nat.le_refl _) (msg := .ref sa) rfl
    (g := { method := m, pc := pc + 6, locals := ls, stack := .ref sa :: .ref T.heap.size :: .ref T.heap.size :: rest, locked := none }) rfl hsize rfl rfl (rest := rest) rfl
    (by rw [hb]; exact d6) (by rw [hb]; exact d9) hout hRframes (by simp only [List.map_cons, List.sum_cons, hcat]; omega) hlocks
  obtain ⟨f1, f2⟩ := vx_frame hsame
  rw [hhp] at f1 f2
  have hWs : s.WarmedH U.vm := State.WarmedH.trans hW0 hW
  have hcl : s.vm.findClass cls = some ce.cls := by
    have h9 := hO.cls
    rw [hvm] at h9
    exact h9
  have hall : s.sameButNew ({ U with vm := s.vm } : State) locs mc ms := by
    subst hA
    obtain ⟨e1, e2⟩ := hsame
    rw [State.setFrames_setFrames] at e1
    have h2 : (T.setVm s.vm).sameButNew ({ U with vm := s.vm } : State) [] (0 + 1) (0 + 6) := ⟨e1, e2⟩
    have h3 := X.same.trans h2
    rw [List.append_nil] at h3
    exact h3.mono hc hs
  refine ⟨U, ?_, .threw T.heap.size, hrun, hend, Or.inr ⟨T.heap.size, rfl, cls, ce, locs, hx U hWs.alike f1 (fun q hq => f2 q hq (fun z hz => nomatch hz)), hce, hO.vm, hcl, hWs, hall, hf⟩⟩
  refine st1 _ ?_
  show Steps p.tables e below (T1.setTop { method := m, pc := pc + 3, locals := ls, stack := .ref T.heap.size :: rest, locked := none }) _
  jvm_step X₁.here [X₁.here.top, hexec, d3', Value.category]
  exact X₁.ldcString hexec (own := own) (text := text) (index := is) (a := sa) hown' hstr'.1 hstr'.2
    (g := { method := m, pc := pc + 4, locals := ls, stack := .ref T.heap.size :: .ref T.heap.size :: rest, locked := none }) rfl d4' _ hsteps
/-- 'throw new E("text")', the text by a wide index -/
theorem vx_throwSW {cc : ByteArray} {pc : Nat} (hexec : p.tables.exec = Jvm.exec) (hb : c.code = cc) (hl : l.stackTraces = false) {own cls text : String} {names : List String} {ik is ic mc ms sa : Nat} {A : Nat → Prop}
    (hown : s.vm.findClass own = some m.cls) (hcls : Bundle.fit cls = true) (hnames : ∀ n ∈ names, Bundle.fit n = true)
    (hk : (Cond.classLink own ik cls).before args s = true) (hini : (Cond.initialized cls).before args s = true) (hstr : vk_R own is text sa s) (hat : ∀ w ∈ vx_atS own ic cls names, w.before args s = true)
    (hgood : ∀ w ∈ Cond.classLink own ik cls :: Cond.initialized cls :: vx_atS own ic cls names, vx_ot w = true)
    (hU : vx_Zq Bundle.tN "UNASSIGNED_STACK" Bundle.steD A s s.heap) (hN : vx_Zq Bundle.tN "SUPPRESSED_SENTINEL" Bundle.listD A s s.heap) (hS : va_S A s.heap H locs) (hsize : ls.size = c.maxLocals)
    (d0 : decode cc pc = .ok (.new ik, 3)) (d3 : decode cc (pc + 3) = .ok (.dup, 1)) (d4 : decode cc (pc + 4) = .ok (.ldc_w is, 3)) (d7 : decode cc (pc + 7) = .ok (.invokespecial ic, 3)) (d10 : decode cc (pc + 10) = .ok (.athrow, 1))
    (hout : ∀ x ∈ c.exceptionTable.toList, covers x (pc + 10) = false)
    (hRframes : names.length + 3 < R.frames) (hRlocals : (rest.map fun v => v.category).sum + (13 * (names.length + 1) + 43) ≤ R.locals) (hRcells : cells + 1 ≤ R.cells) (hRslots : slots + 6 ≤ R.slots) (hlocks : meth.locks = false)
    (hx : ∀ t : State, s.vm.Alike t.vm → H.size ≤ t.heap.size → (∀ q : Nat, q < H.size → t.heap[q]? = H[q]?) → XC cls s t)
    (hf : ∀ z ∈ locs, free z.base) (hc : cells + 1 ≤ mc) (hs : slots + 6 ≤ ms) :
    W p l e R s m args below meth c H locs cells slots (vx_MQ below Qc XC args s mc ms free) (F0 m pc ls rest) := by
  intro T hT X
  have htr : e.platform.stackTraces = false := (show e.platform.stackTraces = l.stackTraces by rw [X.admits.platform]).trans hl
  have Y := vx_rebase X (R' := { frames := R.frames, locals := R.locals, cells := 1, slots := 6 }) (Nat.le_refl _) (Nat.le_refl _) hRcells hRslots
  obtain ⟨s', hA⟩ : ∃ z, z = (T.setVm s.vm).setFrames (.invoking m args :: below) := ⟨_, rfl⟩
  rw [← hA] at Y
  have hvm : s'.vm = s.vm := by rw [hA]; rfl
  have hhp : s'.heap = H := by rw [hA]; exact hT
  have hW0 : s.WarmedH s'.vm := by rw [hvm]; exact State.WarmedH.refl s
  have hat' : ∀ w ∈ vx_atS own ic cls names, w.before args s' = true := fun w hw => vx_ot_at hW0 hvm.symm (hgood w (List.mem_cons_of_mem _ (List.mem_cons_of_mem _ hw))) (hat w hw)
  have hk' : (Cond.classLink own ik cls).before args s' = true := vx_ot_at hW0 hvm.symm (hgood _ List.mem_cons_self) hk
  have hini' : (Cond.initialized cls).before args s' = true := vx_ot_at hW0 hvm.symm (hgood _ (List.mem_cons_of_mem _ List.mem_cons_self)) hini
  have hU' : vx_Zq Bundle.tN "UNASSIGNED_STACK" Bundle.steD A s' s'.heap := by rw [hhp]; exact vx_Zq.moved hW0.alike (hU.kept hS.2.1)
  have hN' : vx_Zq Bundle.tN "SUPPRESSED_SENTINEL" Bundle.listD A s' s'.heap := by rw [hhp]; exact vx_Zq.moved hW0.alike (hN.kept hS.2.1)
  have h : ∀ w ∈ Bundle.ownAtoms own ic cls names, w.before args s' = true := vx_own hat' (vx_isRefq hU'.1) (vx_isRefq hN'.1) hU'.2.word hN'.2.word
  have hown' : s'.vm.findClass own = some m.cls := by rw [hvm]; exact hown
  have hins : (Cond.instantiable cls 6).before args s' = true := h _ (by simp [Bundle.ownAtoms])
  obtain ⟨vm₁, cX, kX, hfX, hkX, -, -, X₁, st1⟩ := Y.newCold hexec (own := own) (C := cls) (index := ik) (n := 6) hown' hk' hins hini'
    (g := F0 m pc ls rest) rfl (by rw [hb]; exact d0) (Nat.le_refl _) (Nat.le_refl _)
  generalize hT1 : (T.setVm vm₁).pushCell { cls := cX, slots := kX.instanceTypes.map defaultValue, vm := .none } = T1 at X₁ st1
  have hcat : (Value.ref T.heap.size).category = 1 := rfl
  have hcellA : T1.heap[T.heap.size]? = some (freshCell cX kX) := by rw [← hT1]; exact State.heap_pushCell_size _ _
  have d3' : decode c.code (pc + 3) = .ok (.dup, 1) := by rw [hb]; exact d3
  have d4' : decode c.code (pc + 4) = .ok (.ldc_w is, 3) := by rw [hb]; exact d4
  have hstr' : vk_R own is text sa s' := vk_R.warm hW0 hstr
  obtain ⟨U, hsteps, hrun, hend, hW, hsame, ce, hce, hO⟩ := X₁.ctorThrowS hexec htr (own := own) (cls := cls) (names := names) (ic := ic) hown' hcls hnames h (fun x hx => nomatch hx) hfX hkX hcellA (by rw [hhp, hT]; exact Nat.le_refl _) (msg := .ref sa) rfl
    (g := { method := m, pc := pc + 7, locals := ls, stack := .ref sa :: .ref T.heap.size :: .ref T.heap.size :: rest, locked := none }) rfl hsize rfl rfl (rest := rest) rfl
    (by rw [hb]; exact d7) (by rw [hb]; exact d10) hout hRframes (by simp only [List.map_cons, List.sum_cons, hcat]; omega) hlocks
  obtain ⟨f1, f2⟩ := vx_frame hsame
  rw [hhp] at f1 f2
  have hWs : s.WarmedH U.vm := State.WarmedH.trans hW0 hW
  have hcl : s.vm.findClass cls = some ce.cls := by
    have h9 := hO.cls
    rw [hvm] at h9
    exact h9
  have hall : s.sameButNew ({ U with vm := s.vm } : State) locs mc ms := by
    subst hA
    obtain ⟨e1, e2⟩ := hsame
    rw [State.setFrames_setFrames] at e1
    have h2 : (T.setVm s.vm).sameButNew ({ U with vm := s.vm } : State) [] (0 + 1) (0 + 6) := ⟨e1, e2⟩
    have h3 := X.same.trans h2
    rw [List.append_nil] at h3
    exact h3.mono hc hs
  refine ⟨U, ?_, .threw T.heap.size, hrun, hend, Or.inr ⟨T.heap.size, rfl, cls, ce, locs, hx U hWs.alike f1 (fun q hq => f2 q hq (fun z hz => nomatch hz)), hce, hO.vm, hcl, hWs, hall, hf⟩⟩
  refine st1 _ ?_
  show Steps p.tables e below (T1.setTop { method := m, pc := pc + 3, locals := ls, stack := .ref T.heap.size :: rest, locked := none }) _
  jvm_step X₁.here [X₁.here.top, hexec, d3', Value.category]
  exact X₁.ldcStringW hexec (own := own) (text := text) (index := is) (a := sa) hown' hstr'.1 hstr'.2
    (g := { method := m, pc := pc + 4, locals := ls, stack := .ref T.heap.size :: .ref T.heap.size :: rest, locked := none }) rfl d4' _ hsteps
end Ends
section Bodies
variable {l : Launch}
theorem vx_ofW {y : MethodName} {ws ws' : List Cond} {rm : Room} {Pc : Array Value → State → Prop} {Qc : Array Value → State → Outcome → State → Prop} {XC : String → State → State → Prop} {mc ms : Nat} {free : Addr → Prop} {cc : ByteArray} {maxL : Nat} {ret : Option FieldType}
    (hy : plainName y.cls = true) (hw : ws = Cond.code y cc maxL ret :: ws')
    (body : ∀ p e s m args below meth c s₁, BodyLoose p l y (headSpec ws rm) cc maxL ret e s m args below meth c s₁ → c.maxLocals = maxL → (∀ x ∈ c.exceptionTable.toList, False) → Pc args s →
      W p l e (headSpec ws rm).room s m args below meth c s.heap [] 0 0 (vx_MQ below Qc XC args s mc ms free) (entryFrame m args maxL)) : vx_Met l y ws rm Pc Qc XC mc ms free := by
  refine MetFree.of_bodyS (code := cc) (maxLocals := maxL) (ret := ret) hy ?_ ?_
  · intro args s m h hn
    obtain ⟨meth, c, h1, h2, h3, h4, h5, h6, -, -⟩ := Cond.code_spec hn (atoms_spec (ws := ws) h _ (by rw [hw]; exact List.mem_cons_self))
    exact ⟨meth, c, h1, h2, h3, h4, h5, h6⟩
  · intro p e s m args below meth c s₁ B hml hP _
    have hh0 : s₁.heap = s.heap := by rw [B.state]; rfl
    have ht : ∀ x ∈ c.exceptionTable.toList, False := by
      obtain ⟨meth9, c9, h1, h2, -, -, -, -, h7, -⟩ := Cond.code_spec B.named (atoms_spec (ws := ws) B.pre _ (by rw [hw]; exact List.mem_cons_self))
      cases Option.some.inj (h1.symm.trans B.method)
      cases Option.some.inj (h2.symm.trans (Stand.of_body B).code)
      intro x hx
      rw [Array.isEmpty_iff.mp h7] at hx
      cases hx
    obtain ⟨t, a1, o, b1, b2, b3⟩ := body p e s m args below meth c s₁ B hml ht hP s₁ hh0 (Stand.of_body B)
    exact ⟨t, o, a1, b1, b2, b3⟩
/-- the table of a body with handlers -/
theorem vx_table {p : Program} {x y : MethodName} {S : Spec} {cc bytes : ByteArray} {maxL maxL' : Nat} {ret ret' : Option FieldType} {e : Env} {s s₁ : State} {m : MethodId} {args : Array Value} {below : List Frame} {meth : Method} {c : Code} {hh : List (Nat × Nat × Nat × Nat)}
    (B : BodyLoose p l y S cc maxL ret e s m args below meth c s₁) (h : (Cond.codeWith y bytes maxL' ret' hh).before args s = true) : c.exceptionTable.toList = tableOf hh := by
  obtain ⟨m9, meth9, c9, hn9, h1, h2, -, -, h6, -⟩ := Cond.codeWith_spec h
  cases Option.some.inj (hn9.symm.trans B.named)
  cases Option.some.inj (h1.symm.trans B.method)
  cases Option.some.inj (h2.symm.trans (Stand.of_body B).code)
  rw [← h6, table_eq]
end Bodies
end VXA
/-! ===== END ===== -/
/-! ===== BEGIN a static call of a method with an exception table ===== -/
section VXS
variable {p : Program} {l : Launch} {e : Env} {R : Room} {s : State} {m : MethodId} {args : Array Value} {below : List Frame} {meth : Method} {c : Code} {T : State} {H : Heap} {locs : List Loc} {cells slots : Nat}
abbrev vx_CSW (R : Room) (s : State) (args : Array Value) (own : String) (index : Nat) (y : MethodName) (bytes : ByteArray) (maxL : Nat) (ret : Option FieldType) (hh : List (Nat × Nat × Nat × Nat)) (ws : List Cond) (rm : Room) (mc ms n : Nat) : Prop :=
  (rm.cells = mc ∧ rm.slots = ms ∧ rm.frames + 1 ≤ R.frames ∧ 8 + (maxL + 11) + rm.locals ≤ R.locals ∧ (∀ w ∈ ws, ∀ (a' : Array Value) (U : State), s.WarmedH U.vm → w.before a' U = true) ∧ Cond.codeWith y bytes maxL ret hh ∈ ws) ∧
  (Cond.codeWith y bytes maxL ret hh).before args s = true ∧ (Cond.initialized y.cls).before args s = true ∧ (y.cls ≠ "java/lang/invoke/MethodHandle" ∧ y.cls ≠ "java/lang/invoke/VarHandle") ∧
  (∀ sig, parseMethodDescriptor y.desc = some sig → n = sig.parameters.length) ∧ (Cond.methodLink own index y).before args s = true ∧ (Cond.static y).before args s = true
theorem vx_cwSW {own : String} {index maxL mc ms : Nat} {y : MethodName} {bytes : ByteArray} {ret : Option FieldType} {hh : List (Nat × Nat × Nat × Nat)} {Ts ws ws' : List Cond} {rm : Room} (n : Nat) (ht : ∀ w ∈ Ts, w.before args s = true) (hT : GoodIn Ts (va_wsS own index y ws)) (hw : ws = Cond.codeWith y bytes maxL ret hh :: ws') (hrc : rm.cells = mc) (hrs : rm.slots = ms)
    (hd : y.cls ≠ "java/lang/invoke/MethodHandle" ∧ y.cls ≠ "java/lang/invoke/VarHandle" ∧ (parseMethodDescriptor y.desc).map (fun d => d.parameters.length) = some n) (hR : rm.frames + 1 ≤ R.frames ∧ 8 + (maxL + 11) + rm.locals ≤ R.locals) :
    vx_CSW R s args own index y bytes maxL ret hh ws rm mc ms n := by
  have ok : ∀ w ∈ va_wsS own index y ws, w.before args s = true := fun w h => ht w (hT w h).1
  have hG : GoodIn Ts ws := fun w h => hT w (by unfold va_wsS; exact List.mem_append_right _ h)
  have hc : Cond.codeWith y bytes maxL ret hh ∈ ws := by rw [hw]; exact List.mem_cons_self
  refine ⟨⟨hrc, hrs, hR.1, hR.2, pay_in ht hG, hc⟩, ht _ (hG _ hc).1, ok _ (by simp [va_wsS]), ⟨hd.1, hd.2.1⟩, fun sig h => ?_, ok _ (by simp [va_wsS]), ok _ (by simp [va_wsS])⟩
  have h2 := hd.2.2
  rw [h] at h2
  exact (Option.some.inj h2).symm
theorem vx_callSW (X : Stand p l e R s m args below meth c T locs cells slots) (hexec : p.tables.exec = Jvm.exec) {own : String} {index : Nat} {y : MethodName} {bytes : ByteArray} {maxL : Nat} {ret : Option FieldType} {hh : List (Nat × Nat × Nat × Nat)}
    (hown : s.vm.findClass own = some m.cls) (hlink : (Cond.methodLink own index y).before args s = true) (hstat : (Cond.static y).before args s = true) (hinit : (Cond.initialized y.cls).before args s = true)
    (hcode : (Cond.codeWith y bytes maxL ret hh).before args s = true) (hy : y.cls ≠ "java/lang/invoke/MethodHandle" ∧ y.cls ≠ "java/lang/invoke/VarHandle")
    {W9 : Nat} {Pre : Pt → Array Value → Prop} {Post : Pt → Array Value → Option Value → Pt → Prop} (hK : Back l R p e below s args y 3 W9 Pre Post)
    {g : JFrame} (hg : g.method = m) (hsize : g.locals.size = c.maxLocals) {argsL rest : List Value} (hlen : ∀ sig, parseMethodDescriptor y.desc = some sig → argsL.length = sig.parameters.length)
    (hstack : g.stack = argsL.reverse ++ rest) (hW : 2 * g.monitorRoom + (rest.map fun v => v.category).sum ≤ W9) (hdg : decode c.code g.pc = .ok (.invokestatic index, 3))
    (hpre : ∀ vm₁, s.WarmedH vm₁ → Pre ⟨T.setVm vm₁, locs, cells, slots⟩ argsL.toArray) :
    ∃ (v : Option Value) (vm₁ : Vm) (B : Pt), s.WarmedH vm₁ ∧ Stand p l e R s m args below meth c B.U B.locs B.cells B.slots ∧ Post ⟨T.setVm vm₁, locs, cells, slots⟩ argsL.toArray v B ∧
      ∀ target, Steps p.tables e below (B.U.setTop { g with pc := g.pc + 3, stack := v.toList ++ rest }) target → Steps p.tables e below (T.setTop g) target := by
  obtain ⟨mk, methM, cM, hnamed, hmethM, -, -, -, -, -, -, hsigM⟩ := Cond.codeWith_spec hcode
  have hstatic : methM.isStatic = true := Cond.static_spec hnamed hmethM hstat
  obtain ⟨kP, hkP, -⟩ := className_of_methodNamed hnamed
  have hinitP : kP.init = .initialized := Cond.initialized_spec (findClass_of_methodNamed hnamed) hkP hinit
  obtain ⟨vm₁, X₁, hstep₁⟩ := X.invokestatic hexec hown hlink hnamed hmethM hstatic hkP hinitP hy (g := g) hg (argsL := argsL) (rest := rest) (hlen _ hsigM) hstack hdg
  obtain ⟨v, B, X', hpost, hsteps⟩ := hK m meth c ⟨T.setVm vm₁, locs, cells, slots⟩ { g with stack := rest } (.invokestatic index) mk argsL.toArray X₁ hg hsize hdg hW (X₁.named hnamed) (hpre vm₁ X₁.warmed)
  exact ⟨v, vm₁, B, X₁.warmed, X', hpost, fun target h => hstep₁ _ fun acts => by rw [doInvoke_state]; exact hsteps.trans h⟩
theorem vx_runSW {y : MethodName} {bytes cc : ByteArray} {maxL nL mc ms n index : Nat} {ret : Option FieldType} {hh : List (Nat × Nat × Nat × Nat)} {ws : List Cond} {rm : Room} {Pc : Array Value → State → Prop} {Qc : Array Value → State → Outcome → State → Prop} {free : Addr → Prop} {Ts : List Cond} {own : String} {As rest : List Value} {g : JFrame}
    (S : CallFix p m c cc nL s args Ts own) (hM : Met l y ws rm Pc Qc mc ms free) (cw : vx_CSW R s args own index y bytes maxL ret hh ws rm mc ms n) (hp : PreS s H Pc As)
    (hg : g.method = m) (hn : As.length = n) (hsize : g.locals.size = nL) (hstack : g.stack = As.reverse ++ rest) (hW : 2 * g.monitorRoom + (rest.map fun v => v.category).sum ≤ 8) (hdg : decode cc g.pc = .ok (.invokestatic index, 3)) (hf : cells + mc ≤ R.cells ∧ slots + ms ≤ R.slots) :
    va_Run p l e R s m args below meth c H locs cells slots mc ms g rest (Qc As.toArray) (free) := by
  obtain ⟨⟨hrc, hrs, hfr, hlo, hws, hcw⟩, hcode, hini, hy, hlen, hl, hstt⟩ := cw
  have hK : Back l R p e below s args y 3 8 (PreOf R mc ms Pc) (PostOf Qc mc ms free) := va_backW (hh := hh) (bytes := bytes) (maxL := maxL) (ret := ret) hM hp.1 hrc hrs hfr hlo hws hcw (fun a' U hW => word_at hW (Or.inl (by first | rfl | simp [Cond.onTables, Cond.keeps, Cond.steady])) hini)
  obtain ⟨hx, hb, hml, ho, -⟩ := S
  intro T hT X
  obtain ⟨v, vm₁, ⟨U', l2, c2, s2⟩, hW₁, X', ⟨g', mk, t, L, e1, e2, hq, h1, hL, h2, h3⟩, st⟩ := vx_callSW X hx (hh := hh) (bytes := bytes) (maxL := maxL) (ret := ret) ho hl hstt hini hcode hy hK hg (hsize.trans hml.symm) (argsL := As) (rest := rest) (fun sig h => hn.trans (hlen sig h)) hstack hW (by rw [hb]; exact hdg)
    (fun vm₁ hW₁ => ⟨hf.1, hf.2, hp.2 (T.setVm vm₁) hT hW₁⟩)
  dsimp only [Pt.U, Pt.locs, Pt.cells, Pt.slots] at X' e1 e2 h1 h2 h3 st
  subst h1; subst h2; subst h3
  exact ⟨v, (T.setVm vm₁).calling g' mk As.toArray, t, U', L, hT, X', hL, e1, e2, hq, st⟩
/-- a thing of a world lies in the heap -/
theorem vx_lt {D : va_G} {cl : List vw_C} {ws : va_W} {H1 : Heap} (h : va_P D cl ws H1) {k : Nat} {q : Nat × va_E} (hk : ws[k]? = some q) : q.1 < H1.size := (h k q hk).lt
end VXS
/-! ===== END ===== -/
/-! ===== BEGIN methods with a table of their own: called by a name, returning or throwing ===== -/
section VXH
/-! vx_backW, vx_callVX, vx_callSX, vx_callVW, vx_runVW, vx_runVX, vx_runSX, vx_ofWH follow the same proofs as their sisters above (Free/Laws.lean, Shelf42/LK1.lean); vx_outP calls Shelf42/NT130.lean (outThrough). -/
section
variable {l : Launch} {R : Room} {p : Program} {e : Env} {below : List Frame} {s : State} {sargs : Array Value} {y : MethodName} {len W9 : Nat}
theorem vx_backW {ws : List Cond} {rm : Room} {Pc : Array Value → State → Prop} {Qc : Array Value → State → Outcome → State → Prop} {XC : String → State → State → Prop} {mc ms : Nat} {free : Addr → Prop} {bytes : ByteArray} {maxL : Nat} {ret : Option FieldType} {hh : List (Nat × Nat × Nat × Nat)}
    (hM : vx_Met l y ws rm Pc Qc XC mc ms free) (hblind : FrameBlind Pc) (hrc : rm.cells = mc) (hrs : rm.slots = ms)
    (hframes : rm.frames + 1 ≤ R.frames) (hlocals : W9 + (maxL + 11) + rm.locals ≤ R.locals)
    (hws : ∀ w ∈ ws, ∀ a' U, s.WarmedH U.vm → w.before a' U = true) (hcode : Cond.codeWith y bytes maxL ret hh ∈ ws) (hinit : ∀ a' U, s.WarmedH U.vm → (Cond.initialized y.cls).before a' U = true) :
    vx_Back l R p e below s sargs y len W9 (PreOf R mc ms Pc) (PostOf Qc mc ms free) (vx_Post XC mc ms free) := by
  intro m meth c A g ig mk a X hg hsize hdg hW hn hp
  have h1 : (headSpec ws rm).pre.before a A.U = true := atoms_intro fun w hw => hws w hw _ _ X.warmed
  have h2 : (Cond.codeWith y bytes maxL ret hh).before a A.U = true := hws _ hcode _ _ X.warmed
  have h3 : (Cond.initialized y.cls).before a A.U = true := hinit _ _ X.warmed
  have h4 : A.cells + (headSpec ws rm).room.cells ≤ R.cells := by rw [show (headSpec ws rm).room.cells = mc from hrc]; exact hp.1
  have h5 : A.slots + (headSpec ws rm).room.slots ≤ R.slots := by rw [show (headSpec ws rm).room.slots = ms from hrs]; exact hp.2.1
  have hPc : Pc a (A.U.calling g mk a) := hblind _ _ _ _ hp.2.2
  obtain ⟨U, Ls, c0, s0⟩ := A
  dsimp only [Pt.U, Pt.locs, Pt.cells, Pt.slots] at h1 h2 h3 h4 h5 X hn hPc ⊢
  obtain ⟨m9, methY, cY, hn9, hmY, hcY, -, hlY, -⟩ := Cond.codeWith_spec h2
  cases Option.some.inj (hn9.symm.trans hn)
  obtain ⟨kY, hkY, -⟩ := className_of_methodNamed hn
  have hinitY : kY.init = .initialized := Cond.initialized_spec (findClass_of_methodNamed hn) hkY h3
  have h : At U g.method c below := by rw [hg]; exact X.here
  have hlocals9 : W9 + (maxL + 11) + (headSpec ws rm).room.locals ≤ R.locals := hlocals
  have happ : (headSpec ws rm).appliesLoose y e.platform (U.calling g mk a) = true :=
    Spec.appliesLoose_calling (g := g) h hdg hn hkY hinitY
      (X.room_calling (g := g) (R' := (headSpec ws rm).room) hsize hmY hcY hframes (by rw [hlY]; omega) h4 h5) h1
  obtain ⟨mid, hmid⟩ := h.above
  have hfr : (U.setTop g).frames = (.java g :: mid) ++ below := by rw [State.frames_setTop' g h.top, hmid]; rfl
  obtain ⟨o, s₂, hsteps, -, hend, hq⟩ := Steps.callFree hM p X.admits X.cas X.clock (acts := []) hfr happ hPc trivial
  have hq' : vx_Q Qc XC mc ms free a (U.calling g mk a) o s₂ := hq
  rw [State.frames_setTop' g h.top] at hend
  obtain ⟨g₀, hg0⟩ := Option.isSome_iff_exists.mp h.top
  obtain ⟨r, hr⟩ := State.topJava?_eq_some.mp hg0
  have hr' : (({ U with heap := s₂.heap, slotsUsed := s₂.slotsUsed } : State).setVm s₂.vm).frames = .java g₀ :: r := hr
  rcases hq' with ⟨hqc, L, hfe, hL⟩ | ⟨q, rfl, E, ce, L, hx, hce, hcv, hcl, hW₂, hsm, hL⟩
  · obtain ⟨⟨v, rfl⟩, hW₂, e2, q2, q3, q4, q5, q6⟩ := id hfe
    have e3 : s₂ = ({ (U.calling g mk a).setFrames s₂.frames with heap := s₂.heap, slotsUsed := s₂.slotsUsed } : State).setVm s₂.vm := by
      have : s₂ = ({ s₂ with vm := (U.calling g mk a).vm } : State).setVm s₂.vm := rfl
      rw [e2] at this
      exact this
    obtain ⟨c₂, i₂, len₂, hc₂, hd₂, hf₂⟩ := hend
    have hW' : U.WarmedH s₂.vm := hW₂
    have hcc : c₂ = c := by
      have h1 : s₂.code? g.method = U.code? g.method := by
        rw [State.code?_eq, State.code?_eq, hW'.alike.method?]
      exact Option.some.inj (hc₂.symm.trans (h1.trans h.code))
    subst hcc
    have hlen : len₂ = len := by rw [hdg] at hd₂; cases hd₂; rfl
    subst hlen
    have hs₂ : s₂ = (({ U with heap := s₂.heap, slotsUsed := s₂.slotsUsed } : State).setVm s₂.vm).setTop { g with pc := g.pc + len₂, stack := v.toList ++ g.stack } := by
      refine e3.trans ?_
      rw [hf₂, State.calling_eq h.top, State.setFrames_setFrames, State.setTop_of_frames _ hr', hr]
      rfl
    have hsame : U.sameButNew ({ U with heap := s₂.heap, slotsUsed := s₂.slotsUsed } : State) L mc ms := by
      refine ⟨?_, q2, q3, q4, q5, q6⟩
      obtain ⟨t, ht, -⟩ := State.frames_cons hr
      show ({ U with heap := s₂.heap, slotsUsed := s₂.slotsUsed } : State) = { U.setFrames U.frames with heap := s₂.heap, slotsUsed := s₂.slotsUsed }
      rw [State.setFrames_self ht]
    subst hg
    refine Or.inl ⟨v, ⟨(({ U with heap := s₂.heap, slotsUsed := s₂.slotsUsed } : State).setVm s₂.vm), Ls ++ L, c0 + mc, s0 + ms⟩,
      ⟨X.admits, X.cas, X.clock, X.frames, X.room, X.hears, X.method, X.code, (X.here.setHeapUsed s₂.heap s₂.slotsUsed).setVm hW'.alike, X.tail, State.WarmedH.trans X.warmed hW', X.limits, X.bytes, X.same.trans (hsame.setVm s.vm)⟩,
      ⟨g, mk, s₂, L, rfl, rfl, hqc, rfl, hL, rfl, rfl⟩, ?_⟩
    show Steps p.tables e below _ ((({ U with heap := s₂.heap, slotsUsed := s₂.slotsUsed } : State).setVm s₂.vm).setTop { g with pc := g.pc + len₂, stack := v.toList ++ g.stack })
    rw [← hs₂]
    exact hsteps
  · obtain ⟨e2, q2, q3, q4, q5, q6⟩ := id hsm
    have e3 : s₂ = ({ (U.calling g mk a).setFrames s₂.frames with heap := s₂.heap, slotsUsed := s₂.slotsUsed } : State).setVm s₂.vm := by
      have : s₂ = ({ s₂ with vm := (U.calling g mk a).vm } : State).setVm s₂.vm := rfl
      rw [e2] at this
      exact this
    have hf₂ : s₂.frames = .throwing q :: .java g :: U.frames.tail := hend
    have hW' : U.WarmedH s₂.vm := hW₂
    have hs₂ : s₂ = ((({ U with heap := s₂.heap, slotsUsed := s₂.slotsUsed } : State).setVm s₂.vm).setTop g).pushFrame (.throwing q) := by
      refine e3.trans ?_
      rw [hf₂, State.calling_eq h.top, State.setFrames_setFrames, State.pushFrame, State.frames_setTop _ hr', State.setTop_of_frames _ hr', State.setFrames_setFrames, hr]
      rfl
    have hsame : U.sameButNew ({ U with heap := s₂.heap, slotsUsed := s₂.slotsUsed } : State) L mc ms := by
      refine ⟨?_, q2, q3, q4, q5, q6⟩
      obtain ⟨t, ht, -⟩ := State.frames_cons hr
      show ({ U with heap := s₂.heap, slotsUsed := s₂.slotsUsed } : State) = { U.setFrames U.frames with heap := s₂.heap, slotsUsed := s₂.slotsUsed }
      rw [State.setFrames_self ht]
    subst hg
    refine Or.inr ⟨q, ⟨(({ U with heap := s₂.heap, slotsUsed := s₂.slotsUsed } : State).setVm s₂.vm), Ls ++ L, c0 + mc, s0 + ms⟩,
      ⟨X.admits, X.cas, X.clock, X.frames, X.room, X.hears, X.method, X.code, (X.here.setHeapUsed s₂.heap s₂.slotsUsed).setVm hW'.alike, X.tail, State.WarmedH.trans X.warmed hW', X.limits, X.bytes, X.same.trans (hsame.setVm s.vm)⟩,
      ⟨g, mk, s₂, L, E, ce, rfl, rfl, hx, hce, hcv, hcl, rfl, hL, rfl, rfl⟩, ?_⟩
    show Steps p.tables e below _ (((({ U with heap := s₂.heap, slotsUsed := s₂.slotsUsed } : State).setVm s₂.vm).setTop g).pushFrame (.throwing q))
    rw [← hs₂]
    exact hsteps
end
variable {p : Program} {l : Launch} {e : Env} {R : Room} {s : State} {m : MethodId} {args : Array Value} {below : List Frame} {meth : Method} {c : Code} {T : State} {H : Heap} {locs : List Loc} {cells slots : Nat}
theorem vx_callVX (X : Stand p l e R s m args below meth c T locs cells slots) (hexec : p.tables.exec = Jvm.exec) {own C : String} {index : Nat} {y : MethodName} {bytes : ByteArray} {maxL : Nat} {ret : Option FieldType} {hh : List (Nat × Nat × Nat × Nat)}
    (hown : s.vm.findClass own = some m.cls) (hlink : (Cond.methodLink own index y).before args s = true) (hinst : (Cond.instanceMethod y).before args s = true) (hsel : (Cond.selects C y y).before args s = true)
    (hcode : (Cond.codeWith y bytes maxL ret hh).before args s = true) (hy : y.cls ≠ "java/lang/invoke/MethodHandle" ∧ y.cls ≠ "java/lang/invoke/VarHandle")
    {W9 : Nat} {Pre : Pt → Array Value → Prop} {Post : Pt → Array Value → Option Value → Pt → Prop} {PostX : Pt → Array Value → Addr → Pt → Prop} (hK : vx_Back l R p e below s args y 3 W9 Pre Post PostX)
    {b : Addr} {cellB : Cell} (hcell : T.heap[b]? = some cellB) (hobj : cellB.vm.isStatics = false) (hcls : s.vm.findClass C = some cellB.cls)
    {g : JFrame} (hg : g.method = m) (hsize : g.locals.size = c.maxLocals) {argsL rest : List Value} (hlen : ∀ sig, parseMethodDescriptor y.desc = some sig → argsL.length = sig.parameters.length)
    (hstack : g.stack = argsL.reverse ++ .ref b :: rest) (hW : 2 * g.monitorRoom + (rest.map fun v => v.category).sum ≤ W9) (hdg : decode c.code g.pc = .ok (.invokevirtual index, 3))
    (hpre : ∀ vm₁, s.WarmedH vm₁ → Pre ⟨T.setVm vm₁, locs, cells, slots⟩ (Value.ref b :: argsL).toArray) :
    (∃ (v : Option Value) (vm₁ : Vm) (B : Pt), s.WarmedH vm₁ ∧ Stand p l e R s m args below meth c B.U B.locs B.cells B.slots ∧ Post ⟨T.setVm vm₁, locs, cells, slots⟩ (Value.ref b :: argsL).toArray v B ∧
      ∀ target, Steps p.tables e below (B.U.setTop { g with pc := g.pc + 3, stack := v.toList ++ rest }) target → Steps p.tables e below (T.setTop g) target) ∨
    (∃ (q : Addr) (vm₁ : Vm) (B : Pt), s.WarmedH vm₁ ∧ Stand p l e R s m args below meth c B.U B.locs B.cells B.slots ∧ PostX ⟨T.setVm vm₁, locs, cells, slots⟩ (Value.ref b :: argsL).toArray q B ∧
      Steps p.tables e below (T.setTop g) ((B.U.setTop { g with stack := rest }).pushFrame (.throwing q))) := by
  obtain ⟨mk, methM, hnamed, hmethM, hstM, habM⟩ := Cond.instanceMethod_spec hinst
  obtain ⟨m8, methM', cM, hn8, hmethM', -, -, -, -, -, -, hsigM⟩ := Cond.codeWith_spec hcode
  cases Option.some.inj (hn8.symm.trans hnamed)
  cases hmethM.symm.trans hmethM'
  obtain ⟨c2, r2, m2, q1, q2, q3, q4, kP, hkP, hkPi⟩ := Cond.selects_spec hsel
  cases hcls.symm.trans q1
  cases (State.methodFound?_of_named hnamed hy).symm.trans q2
  cases hnamed.symm.trans q3
  have hselP : selectMethod e.platform s.vm cellB.cls mk = .method mk := by rw [Launch.admits_selectMethod X.admits]; exact q4
  obtain ⟨vm₁, X₁, hstep₁⟩ := X.invokevirtual hexec hown hlink hnamed hmethM hstM hkP hkPi hy (a := b) (cell := cellB) hcell
    (fun z h => by rw [h] at hobj; cases hobj) hselP hmethM habM hkP hkPi (g := g) hg (argsL := argsL) (rest := rest) (hlen _ hsigM) hstack hdg
  rcases hK m meth c ⟨T.setVm vm₁, locs, cells, slots⟩ { g with stack := rest } (.invokevirtual index) mk (Value.ref b :: argsL).toArray X₁ hg hsize hdg hW (X₁.named hnamed) (hpre vm₁ X₁.warmed) with ⟨v, B, X', hpost, hsteps⟩ | ⟨q, B, X', hpost, hsteps⟩
  · exact Or.inl ⟨v, vm₁, B, X₁.warmed, X', hpost, fun target h => hstep₁ _ fun acts => by rw [doInvoke_state]; exact hsteps.trans h⟩
  · exact Or.inr ⟨q, vm₁, B, X₁.warmed, X', hpost, hstep₁ _ fun acts => by rw [doInvoke_state]; exact hsteps⟩
theorem vx_callSX (X : Stand p l e R s m args below meth c T locs cells slots) (hexec : p.tables.exec = Jvm.exec) {own : String} {index : Nat} {y : MethodName} {bytes : ByteArray} {maxL : Nat} {ret : Option FieldType} {hh : List (Nat × Nat × Nat × Nat)}
    (hown : s.vm.findClass own = some m.cls) (hlink : (Cond.methodLink own index y).before args s = true) (hstat : (Cond.static y).before args s = true) (hinit : (Cond.initialized y.cls).before args s = true)
    (hcode : (Cond.codeWith y bytes maxL ret hh).before args s = true) (hy : y.cls ≠ "java/lang/invoke/MethodHandle" ∧ y.cls ≠ "java/lang/invoke/VarHandle")
    {W9 : Nat} {Pre : Pt → Array Value → Prop} {Post : Pt → Array Value → Option Value → Pt → Prop} {PostX : Pt → Array Value → Addr → Pt → Prop} (hK : vx_Back l R p e below s args y 3 W9 Pre Post PostX)
    {g : JFrame} (hg : g.method = m) (hsize : g.locals.size = c.maxLocals) {argsL rest : List Value} (hlen : ∀ sig, parseMethodDescriptor y.desc = some sig → argsL.length = sig.parameters.length)
    (hstack : g.stack = argsL.reverse ++ rest) (hW : 2 * g.monitorRoom + (rest.map fun v => v.category).sum ≤ W9) (hdg : decode c.code g.pc = .ok (.invokestatic index, 3))
    (hpre : ∀ vm₁, s.WarmedH vm₁ → Pre ⟨T.setVm vm₁, locs, cells, slots⟩ argsL.toArray) :
    (∃ (v : Option Value) (vm₁ : Vm) (B : Pt), s.WarmedH vm₁ ∧ Stand p l e R s m args below meth c B.U B.locs B.cells B.slots ∧ Post ⟨T.setVm vm₁, locs, cells, slots⟩ argsL.toArray v B ∧
      ∀ target, Steps p.tables e below (B.U.setTop { g with pc := g.pc + 3, stack := v.toList ++ rest }) target → Steps p.tables e below (T.setTop g) target) ∨
    (∃ (q : Addr) (vm₁ : Vm) (B : Pt), s.WarmedH vm₁ ∧ Stand p l e R s m args below meth c B.U B.locs B.cells B.slots ∧ PostX ⟨T.setVm vm₁, locs, cells, slots⟩ argsL.toArray q B ∧
      Steps p.tables e below (T.setTop g) ((B.U.setTop { g with stack := rest }).pushFrame (.throwing q))) := by
  obtain ⟨mk, methM, cM, hnamed, hmethM, -, -, -, -, -, -, hsigM⟩ := Cond.codeWith_spec hcode
  have hstatic : methM.isStatic = true := Cond.static_spec hnamed hmethM hstat
  obtain ⟨kP, hkP, -⟩ := className_of_methodNamed hnamed
  have hinitP : kP.init = .initialized := Cond.initialized_spec (findClass_of_methodNamed hnamed) hkP hinit
  obtain ⟨vm₁, X₁, hstep₁⟩ := X.invokestatic hexec hown hlink hnamed hmethM hstatic hkP hinitP hy (g := g) hg (argsL := argsL) (rest := rest) (hlen _ hsigM) hstack hdg
  rcases hK m meth c ⟨T.setVm vm₁, locs, cells, slots⟩ { g with stack := rest } (.invokestatic index) mk argsL.toArray X₁ hg hsize hdg hW (X₁.named hnamed) (hpre vm₁ X₁.warmed) with ⟨v, B, X', hpost, hsteps⟩ | ⟨q, B, X', hpost, hsteps⟩
  · exact Or.inl ⟨v, vm₁, B, X₁.warmed, X', hpost, fun target h => hstep₁ _ fun acts => by rw [doInvoke_state]; exact hsteps.trans h⟩
  · exact Or.inr ⟨q, vm₁, B, X₁.warmed, X', hpost, hstep₁ _ fun acts => by rw [doInvoke_state]; exact hsteps⟩
theorem vx_callVW (X : Stand p l e R s m args below meth c T locs cells slots) (hexec : p.tables.exec = Jvm.exec) {own C : String} {index : Nat} {y : MethodName} {bytes : ByteArray} {maxL : Nat} {ret : Option FieldType} {hh : List (Nat × Nat × Nat × Nat)}
    (hown : s.vm.findClass own = some m.cls) (hlink : (Cond.methodLink own index y).before args s = true) (hinst : (Cond.instanceMethod y).before args s = true) (hsel : (Cond.selects C y y).before args s = true)
    (hcode : (Cond.codeWith y bytes maxL ret hh).before args s = true) (hy : y.cls ≠ "java/lang/invoke/MethodHandle" ∧ y.cls ≠ "java/lang/invoke/VarHandle")
    {W9 : Nat} {Pre : Pt → Array Value → Prop} {Post : Pt → Array Value → Option Value → Pt → Prop} (hK : Back l R p e below s args y 3 W9 Pre Post)
    {b : Addr} {cellB : Cell} (hcell : T.heap[b]? = some cellB) (hobj : cellB.vm.isStatics = false) (hcls : s.vm.findClass C = some cellB.cls)
    {g : JFrame} (hg : g.method = m) (hsize : g.locals.size = c.maxLocals) {argsL rest : List Value} (hlen : ∀ sig, parseMethodDescriptor y.desc = some sig → argsL.length = sig.parameters.length)
    (hstack : g.stack = argsL.reverse ++ .ref b :: rest) (hW : 2 * g.monitorRoom + (rest.map fun v => v.category).sum ≤ W9) (hdg : decode c.code g.pc = .ok (.invokevirtual index, 3))
    (hpre : ∀ vm₁, s.WarmedH vm₁ → Pre ⟨T.setVm vm₁, locs, cells, slots⟩ (Value.ref b :: argsL).toArray) :
    ∃ (v : Option Value) (vm₁ : Vm) (B : Pt), s.WarmedH vm₁ ∧ Stand p l e R s m args below meth c B.U B.locs B.cells B.slots ∧ Post ⟨T.setVm vm₁, locs, cells, slots⟩ (Value.ref b :: argsL).toArray v B ∧
      ∀ target, Steps p.tables e below (B.U.setTop { g with pc := g.pc + 3, stack := v.toList ++ rest }) target → Steps p.tables e below (T.setTop g) target := by
  obtain ⟨mk, methM, hnamed, hmethM, hstM, habM⟩ := Cond.instanceMethod_spec hinst
  obtain ⟨m8, methM', cM, hn8, hmethM', -, -, -, -, -, -, hsigM⟩ := Cond.codeWith_spec hcode
  cases Option.some.inj (hn8.symm.trans hnamed)
  cases hmethM.symm.trans hmethM'
  obtain ⟨c2, r2, m2, q1, q2, q3, q4, kP, hkP, hkPi⟩ := Cond.selects_spec hsel
  cases hcls.symm.trans q1
  cases (State.methodFound?_of_named hnamed hy).symm.trans q2
  cases hnamed.symm.trans q3
  have hselP : selectMethod e.platform s.vm cellB.cls mk = .method mk := by rw [Launch.admits_selectMethod X.admits]; exact q4
  obtain ⟨vm₁, X₁, hstep₁⟩ := X.invokevirtual hexec hown hlink hnamed hmethM hstM hkP hkPi hy (a := b) (cell := cellB) hcell
    (fun z h => by rw [h] at hobj; cases hobj) hselP hmethM habM hkP hkPi (g := g) hg (argsL := argsL) (rest := rest) (hlen _ hsigM) hstack hdg
  obtain ⟨v, B, X', hpost, hsteps⟩ := hK m meth c ⟨T.setVm vm₁, locs, cells, slots⟩ { g with stack := rest } (.invokevirtual index) mk (Value.ref b :: argsL).toArray X₁ hg hsize hdg hW (X₁.named hnamed) (hpre vm₁ X₁.warmed)
  exact ⟨v, vm₁, B, X₁.warmed, X', hpost, fun target h => hstep₁ _ fun acts => by rw [doInvoke_state]; exact hsteps.trans h⟩
abbrev vx_CVW (R : Room) (s : State) (args : Array Value) (own C : String) (index : Nat) (y : MethodName) (bytes : ByteArray) (maxL : Nat) (ret : Option FieldType) (hh : List (Nat × Nat × Nat × Nat)) (ws : List Cond) (rm : Room) (mc ms n : Nat) : Prop :=
  (rm.cells = mc ∧ rm.slots = ms ∧ rm.frames + 1 ≤ R.frames ∧ 8 + (maxL + 11) + rm.locals ≤ R.locals ∧ (∀ w ∈ ws, ∀ (a' : Array Value) (U : State), s.WarmedH U.vm → w.before a' U = true) ∧ Cond.codeWith y bytes maxL ret hh ∈ ws) ∧
  (Cond.codeWith y bytes maxL ret hh).before args s = true ∧ (Cond.initialized y.cls).before args s = true ∧ (y.cls ≠ "java/lang/invoke/MethodHandle" ∧ y.cls ≠ "java/lang/invoke/VarHandle") ∧
  (∀ sig, parseMethodDescriptor y.desc = some sig → n = sig.parameters.length) ∧ (Cond.methodLink own index y).before args s = true ∧ (Cond.instanceMethod y).before args s = true ∧ (Cond.selects C y y).before args s = true
theorem vx_cwVW {own C : String} {index maxL mc ms : Nat} {y : MethodName} {bytes : ByteArray} {ret : Option FieldType} {hh : List (Nat × Nat × Nat × Nat)} {Ts ws ws' : List Cond} {rm : Room} (n : Nat) (ht : ∀ w ∈ Ts, w.before args s = true) (hT : GoodIn Ts (wsV own index C y ws)) (hw : ws = Cond.codeWith y bytes maxL ret hh :: ws') (hrc : rm.cells = mc) (hrs : rm.slots = ms)
    (hd : y.cls = C ∧ y.cls ≠ "java/lang/invoke/MethodHandle" ∧ y.cls ≠ "java/lang/invoke/VarHandle" ∧ (parseMethodDescriptor y.desc).map (fun d => d.parameters.length) = some n) (hR : rm.frames + 1 ≤ R.frames ∧ 8 + (maxL + 11) + rm.locals ≤ R.locals) :
    vx_CVW R s args own C index y bytes maxL ret hh ws rm mc ms n := by
  obtain ⟨hC, hd⟩ := hd
  subst hC
  have ok : ∀ w ∈ wsV own index y.cls y ws, w.before args s = true := fun w h => ht w (hT w h).1
  have hG : GoodIn Ts ws := fun w h => hT w (by unfold wsV; exact List.mem_append_right _ h)
  have hc : Cond.codeWith y bytes maxL ret hh ∈ ws := by rw [hw]; exact List.mem_cons_self
  refine ⟨⟨hrc, hrs, hR.1, hR.2, pay_in ht hG, hc⟩, ht _ (hG _ hc).1, ok _ (by simp [wsV]), ⟨hd.1, hd.2.1⟩, fun sig h => ?_, ok _ (by simp [wsV]), ok _ (by simp [wsV]), ok _ (by simp [wsV])⟩
  have h2 := hd.2.2
  rw [h] at h2
  exact (Option.some.inj h2).symm
theorem vx_runVW {y : MethodName} {bytes cc : ByteArray} {maxL nL mc ms n index : Nat} {ret : Option FieldType} {hh : List (Nat × Nat × Nat × Nat)} {ws : List Cond} {rm : Room} {Pc : Array Value → State → Prop} {Qc : Array Value → State → Outcome → State → Prop} {free : Addr → Prop} {Ts : List Cond} {own C : String} {b : Addr} {As rest : List Value} {g : JFrame}
    (S : CallFix p m c cc nL s args Ts own) (hM : Met l y ws rm Pc Qc mc ms free) (cw : vx_CVW R s args own C index y bytes maxL ret hh ws rm mc ms n) (hp : PreV s H C b Pc As)
    (hg : g.method = m) (hn : As.length = n) (hsize : g.locals.size = nL) (hstack : g.stack = As.reverse ++ .ref b :: rest) (hW : 2 * g.monitorRoom + (rest.map fun v => v.category).sum ≤ 8) (hdg : decode cc g.pc = .ok (.invokevirtual index, 3)) (hf : cells + mc ≤ R.cells ∧ slots + ms ≤ R.slots) :
    va_Run p l e R s m args below meth c H locs cells slots mc ms g rest (Qc (Value.ref b :: As).toArray) free := by
  obtain ⟨⟨hrc, hrs, hfr, hlo, hws, hcw⟩, hcode, hini, hy, hlen, hl, hin, hse⟩ := cw
  have hK : Back l R p e below s args y 3 8 (PreOf R mc ms Pc) (PostOf Qc mc ms free) := va_backW (hh := hh) (bytes := bytes) (maxL := maxL) (ret := ret) hM hp.1 hrc hrs hfr hlo hws hcw (fun a' U hW => word_at hW (Or.inl (by first | rfl | simp [Cond.onTables, Cond.keeps, Cond.steady])) hini)
  obtain ⟨hx, hb, hml, ho, -⟩ := S
  obtain ⟨-, ⟨cellB, hcB, hoB, hclB⟩, hPc⟩ := hp
  intro T hT X
  obtain ⟨v, vm₁, ⟨U', l2, c2, s2⟩, hW₁, X', ⟨g', mk, t, L, e1, e2, hq, h1, hL, h2, h3⟩, st⟩ := vx_callVW X hx (C := C) (hh := hh) (bytes := bytes) (maxL := maxL) (ret := ret) ho hl hin hse hcode hy hK (by rw [hT]; exact hcB) hoB hclB hg (hsize.trans hml.symm) (argsL := As) (rest := rest) (fun sig h => hn.trans (hlen sig h)) hstack hW (by rw [hb]; exact hdg)
    (fun vm₁ hW₁ => ⟨hf.1, hf.2, hPc (T.setVm vm₁) hT hW₁⟩)
  dsimp only [Pt.U, Pt.locs, Pt.cells, Pt.slots] at X' e1 e2 h1 h2 h3 st
  subst h1; subst h2; subst h3
  exact ⟨v, (T.setVm vm₁).calling g' mk (Value.ref b :: As).toArray, t, U', L, hT, X', hL, e1, e2, hq, st⟩
section
variable {y : MethodName} {bytes cc : ByteArray} {maxL nL mc ms n index : Nat} {ret : Option FieldType} {ws : List Cond} {rm : Room} {Pc : Array Value → State → Prop} {Qc : Array Value → State → Outcome → State → Prop} {XC : String → State → State → Prop} {free : Addr → Prop} {Ts : List Cond} {own C : String} {b : Addr} {As rest : List Value} {g : JFrame}
theorem vx_runVX {hh : List (Nat × Nat × Nat × Nat)} (S : CallFix p m c cc nL s args Ts own) (hM : vx_Met l y ws rm Pc Qc XC mc ms free) (cw : vx_CVW R s args own C index y bytes maxL ret hh ws rm mc ms n) (hp : PreV s H C b Pc As)
    (hg : g.method = m) (hn : As.length = n) (hsize : g.locals.size = nL) (hstack : g.stack = As.reverse ++ .ref b :: rest) (hW : 2 * g.monitorRoom + (rest.map fun v => v.category).sum ≤ 8) (hdg : decode cc g.pc = .ok (.invokevirtual index, 3)) (hf : cells + mc ≤ R.cells ∧ slots + ms ≤ R.slots) :
    vx_Run p l e R s m args below meth c H locs cells slots mc ms g rest (Qc (Value.ref b :: As).toArray) XC free := by
  obtain ⟨⟨hrc, hrs, hfr, hlo, hws, hcw⟩, hcode, hini, hy, hlen, hl, hin, hse⟩ := cw
  have hK : vx_Back l R p e below s args y 3 8 (PreOf R mc ms Pc) (PostOf Qc mc ms free) (vx_Post XC mc ms free) := vx_backW (hh := hh) (bytes := bytes) (maxL := maxL) (ret := ret) hM hp.1 hrc hrs hfr hlo hws hcw (fun a' U hW => word_at hW (Or.inl (by first | rfl | simp [Cond.onTables, Cond.keeps, Cond.steady])) hini)
  obtain ⟨hx, hb, hml, ho, -⟩ := S
  obtain ⟨-, ⟨cellB, hcB, hoB, hclB⟩, hPc⟩ := hp
  intro T hT X
  rcases vx_callVX X hx (C := C) (hh := hh) (bytes := bytes) (maxL := maxL) (ret := ret) ho hl hin hse hcode hy hK (by rw [hT]; exact hcB) hoB hclB hg (hsize.trans hml.symm) (argsL := As) (rest := rest) (fun sig h => hn.trans (hlen sig h)) hstack hW (by rw [hb]; exact hdg)
    (fun vm₁ hW₁ => ⟨hf.1, hf.2, hPc (T.setVm vm₁) hT hW₁⟩) with ⟨v, vm₁, ⟨U', l2, c2, s2⟩, hW₁, X', ⟨g', mk, t, L, e1, e2, hq, h1, hL, h2, h3⟩, st⟩ | ⟨q, vm₁, ⟨U', l2, c2, s2⟩, hW₁, X', ⟨g', mk, t, L, E, ce, e1, e2, hq, hce, hcv, hcl, h1, hL, h2, h3⟩, st⟩
  · dsimp only [Pt.U, Pt.locs, Pt.cells, Pt.slots] at X' e1 e2 h1 h2 h3 st
    subst h1; subst h2; subst h3
    exact Or.inl ⟨v, (T.setVm vm₁).calling g' mk (Value.ref b :: As).toArray, t, U', L, hT, X', hL, e1, e2, hq, st⟩
  · dsimp only [Pt.U, Pt.locs, Pt.cells, Pt.slots] at X' e1 e2 h1 h2 h3 st hcl
    subst h1; subst h2; subst h3
    exact Or.inr ⟨q, (T.setVm vm₁).calling g' mk (Value.ref b :: As).toArray, t, U', L, E, ce, hT, X', hL, e1, e2, hq, hce, hcv, vx_cls hW₁ hcl, st⟩
theorem vx_runSX {hh : List (Nat × Nat × Nat × Nat)} (S : CallFix p m c cc nL s args Ts own) (hM : vx_Met l y ws rm Pc Qc XC mc ms free) (cw : vx_CSW R s args own index y bytes maxL ret hh ws rm mc ms n) (hp : PreS s H Pc As)
    (hg : g.method = m) (hn : As.length = n) (hsize : g.locals.size = nL) (hstack : g.stack = As.reverse ++ rest) (hW : 2 * g.monitorRoom + (rest.map fun v => v.category).sum ≤ 8) (hdg : decode cc g.pc = .ok (.invokestatic index, 3)) (hf : cells + mc ≤ R.cells ∧ slots + ms ≤ R.slots) :
    vx_Run p l e R s m args below meth c H locs cells slots mc ms g rest (Qc As.toArray) XC free := by
  obtain ⟨⟨hrc, hrs, hfr, hlo, hws, hcw⟩, hcode, hini, hy, hlen, hl, hstt⟩ := cw
  have hK : vx_Back l R p e below s args y 3 8 (PreOf R mc ms Pc) (PostOf Qc mc ms free) (vx_Post XC mc ms free) := vx_backW (hh := hh) (bytes := bytes) (maxL := maxL) (ret := ret) hM hp.1 hrc hrs hfr hlo hws hcw (fun a' U hW => word_at hW (Or.inl (by first | rfl | simp [Cond.onTables, Cond.keeps, Cond.steady])) hini)
  obtain ⟨hx, hb, hml, ho, -⟩ := S
  intro T hT X
  rcases vx_callSX X hx (hh := hh) (bytes := bytes) (maxL := maxL) (ret := ret) ho hl hstt hini hcode hy hK hg (hsize.trans hml.symm) (argsL := As) (rest := rest) (fun sig h => hn.trans (hlen sig h)) hstack hW (by rw [hb]; exact hdg)
    (fun vm₁ hW₁ => ⟨hf.1, hf.2, hp.2 (T.setVm vm₁) hT hW₁⟩) with ⟨v, vm₁, ⟨U', l2, c2, s2⟩, hW₁, X', ⟨g', mk, t, L, e1, e2, hq, h1, hL, h2, h3⟩, st⟩ | ⟨q, vm₁, ⟨U', l2, c2, s2⟩, hW₁, X', ⟨g', mk, t, L, E, ce, e1, e2, hq, hce, hcv, hcl, h1, hL, h2, h3⟩, st⟩
  · dsimp only [Pt.U, Pt.locs, Pt.cells, Pt.slots] at X' e1 e2 h1 h2 h3 st
    subst h1; subst h2; subst h3
    exact Or.inl ⟨v, (T.setVm vm₁).calling g' mk As.toArray, t, U', L, hT, X', hL, e1, e2, hq, st⟩
  · dsimp only [Pt.U, Pt.locs, Pt.cells, Pt.slots] at X' e1 e2 h1 h2 h3 st hcl
    subst h1; subst h2; subst h3
    exact Or.inr ⟨q, (T.setVm vm₁).calling g' mk As.toArray, t, U', L, E, ce, hT, X', hL, e1, e2, hq, hce, hcv, vx_cls hW₁ hcl, st⟩
end
end VXH
theorem vx_ofWH {l : Launch} {y : MethodName} {ws ws' : List Cond} {rm : Room} {Pc : Array Value → State → Prop} {Qc : Array Value → State → Outcome → State → Prop} {XC : String → State → State → Prop} {mc ms : Nat} {free : Addr → Prop} {cc : ByteArray} {maxL : Nat} {ret : Option FieldType} {hh : List (Nat × Nat × Nat × Nat)}
    (hy : plainName y.cls = true) (hw : ws = Cond.codeWith y cc maxL ret hh :: ws')
    (body : ∀ p e s m args below meth c s₁, BodyLoose p l y (headSpec ws rm) cc maxL ret e s m args below meth c s₁ → c.maxLocals = maxL → Pc args s →
      W p l e (headSpec ws rm).room s m args below meth c s.heap [] 0 0 (vx_MQ below Qc XC args s mc ms free) (entryFrame m args maxL)) : vx_Met l y ws rm Pc Qc XC mc ms free := by
  refine MetFree.of_bodyS (code := cc) (maxLocals := maxL) (ret := ret) hy ?_ ?_
  · intro args s m h hn
    obtain ⟨m9, meth, c, hn9, h1, h2, h3, h4, -, h5, h6, -⟩ := Cond.codeWith_spec (atoms_spec (ws := ws) h _ (by rw [hw]; exact List.mem_cons_self))
    cases hn.symm.trans hn9
    exact ⟨meth, c, h1, h2, h3, h4, h5, h6⟩
  · intro p e s m args below meth c s₁ B hml hP _
    have hh0 : s₁.heap = s.heap := by rw [B.state]; rfl
    obtain ⟨t, a1, o, b1, b2, b3⟩ := body p e s m args below meth c s₁ B hml hP s₁ hh0 (Stand.of_body B)
    exact ⟨t, o, a1, b1, b2, b3⟩
/-! ===== END ===== -/
end
section
/-! ===== BEGIN printed: names, fields, word lists, decode rows ===== -/
def RX0 : String := "TriangleSheet$Points"
def TX0 : u_T := fun k => match k with
  | 0 => ("TriangleSheet$Points", "xs", "[I", true)
  | 1 => ("TriangleSheet$Points", "ys", "[I", true)
  | _ => ("TriangleSheet$Points", "came", "I", false)
def tyX0 : Nat → FieldType := fun k => match k with
  | 0 => .array .int
  | 1 => .array .int
  | _ => .int
abbrev wsX00 : List Cond := u_ws RX0 TX0 3
theorem nmX0 : ∀ a, a < 3 → ∀ b, b < 3 → a ≠ b → (TX0 a).2.1 ≠ (TX0 b).2.1 := by decide +kernel
theorem tyX0_ok : ∀ k, k < 3 → parseFieldDescriptor (TX0 k).2.2.1 = some (tyX0 k) := by decide +kernel
abbrev cX0_init : ByteArray := prog_2_method_1_code
def yX0_init : MethodName := ⟨RX0, "<init>", "()V"⟩
abbrev cX0_came : ByteArray := prog_2_method_2_code
def yX0_came : MethodName := ⟨RX0, "came", "()I"⟩
abbrev cX0_isPoint : ByteArray := prog_2_method_3_code
def yX0_isPoint : MethodName := ⟨RX0, "isPoint", "(I)Z"⟩
abbrev cX0_x : ByteArray := prog_2_method_4_code
def yX0_x : MethodName := ⟨RX0, "x", "(I)I"⟩
abbrev cX0_y : ByteArray := prog_2_method_5_code
def yX0_y : MethodName := ⟨RX0, "y", "(I)I"⟩
abbrev cX0_pointAt : ByteArray := prog_2_method_6_code
def yX0_pointAt : MethodName := ⟨RX0, "pointAt", "(II)I"⟩
abbrev cX0_canAdd : ByteArray := prog_2_method_7_code
def yX0_canAdd : MethodName := ⟨RX0, "canAdd", "(II)Z"⟩
abbrev cX0_add : ByteArray := prog_2_method_8_code
def yX0_add : MethodName := ⟨RX0, "add", "(II)I"⟩
abbrev cX0_put : ByteArray := prog_2_method_9_code
def yX0_put : MethodName := ⟨RX0, "put", "(III)V"⟩
abbrev cX0_turnAt : ByteArray := prog_2_method_10_code
def yX0_turnAt : MethodName := ⟨RX0, "turnAt", "(IIII)I"⟩
abbrev cX0_turnOf : ByteArray := prog_2_method_11_code
def yX0_turnOf : MethodName := ⟨RX0, "turnOf", "(III)I"⟩
abbrev cX0_isCrossing : ByteArray := prog_2_method_12_code
def yX0_isCrossing : MethodName := ⟨RX0, "isCrossing", "(IIII)Z"⟩
abbrev cX0_areOpposite : ByteArray := prog_2_method_13_code
def yX0_areOpposite : MethodName := ⟨RX0, "areOpposite", "(II)Z"⟩
abbrev cX0_circleSide : ByteArray := prog_2_method_14_code
def yX0_circleSide : MethodName := ⟨RX0, "circleSide", "(IIII)J"⟩
def RX1 : String := "TriangleSheet$Triangles"
def TX1 : u_T := fun k => match k with
  | 0 => ("TriangleSheet$Triangles", "corners", "[I", true)
  | 1 => ("TriangleSheet$Triangles", "there", "[I", true)
  | 2 => ("TriangleSheet$Triangles", "thereCount", "I", false)
  | _ => ("TriangleSheet$Triangles", "came", "I", false)
def tyX1 : Nat → FieldType := fun k => match k with
  | 0 => .array .int
  | 1 => .array .int
  | 2 => .int
  | _ => .int
abbrev wsX10 : List Cond := u_ws RX1 TX1 4
theorem nmX1 : ∀ a, a < 4 → ∀ b, b < 4 → a ≠ b → (TX1 a).2.1 ≠ (TX1 b).2.1 := by decide +kernel
theorem tyX1_ok : ∀ k, k < 4 → parseFieldDescriptor (TX1 k).2.2.1 = some (tyX1 k) := by decide +kernel
abbrev cX1_init : ByteArray := prog_3_method_1_code
def yX1_init : MethodName := ⟨RX1, "<init>", "()V"⟩
abbrev cX1_came : ByteArray := prog_3_method_2_code
def yX1_came : MethodName := ⟨RX1, "came", "()I"⟩
abbrev cX1_thereCount : ByteArray := prog_3_method_3_code
def yX1_thereCount : MethodName := ⟨RX1, "thereCount", "()I"⟩
abbrev cX1_numberAt : ByteArray := prog_3_method_4_code
def yX1_numberAt : MethodName := ⟨RX1, "numberAt", "(I)I"⟩
abbrev cX1_isThere : ByteArray := prog_3_method_5_code
def yX1_isThere : MethodName := ⟨RX1, "isThere", "(I)Z"⟩
abbrev cX1_canAdd : ByteArray := prog_3_method_6_code
def yX1_canAdd : MethodName := ⟨RX1, "canAdd", "(I)Z"⟩
abbrev cX1_add : ByteArray := prog_3_method_7_code
def yX1_add : MethodName := ⟨RX1, "add", "(III)I"⟩
abbrev cX1_put : ByteArray := prog_3_method_8_code
def yX1_put : MethodName := ⟨RX1, "put", "(IIII)V"⟩
abbrev cX1_remove : ByteArray := prog_3_method_9_code
def yX1_remove : MethodName := ⟨RX1, "remove", "(I)V"⟩
abbrev cX1_cornerOf : ByteArray := prog_3_method_10_code
def yX1_cornerOf : MethodName := ⟨RX1, "cornerOf", "(II)I"⟩
abbrev cX1_hasCorner : ByteArray := prog_3_method_11_code
def yX1_hasCorner : MethodName := ⟨RX1, "hasCorner", "(II)Z"⟩
abbrev cX1_thirdCorner : ByteArray := prog_3_method_12_code
def yX1_thirdCorner : MethodName := ⟨RX1, "thirdCorner", "(III)I"⟩
abbrev cX1_hasEdge : ByteArray := prog_3_method_13_code
def yX1_hasEdge : MethodName := ⟨RX1, "hasEdge", "(III)Z"⟩
abbrev cX1_neighbour : ByteArray := prog_3_method_14_code
def yX1_neighbour : MethodName := ⟨RX1, "neighbour", "(II)I"⟩
def RX2 : String := "TriangleSheet"
def TX2 : u_T := fun k => match k with
  | 0 => ("TriangleSheet", "points", "LTriangleSheet$Points;", true)
  | 1 => ("TriangleSheet", "triangles", "LTriangleSheet$Triangles;", true)
  | 2 => ("TriangleSheet", "joinedTo", "[J", true)
  | 3 => ("TriangleSheet", "pieceOf", "[I", true)
  | 4 => ("TriangleSheet", "faulty", "I", false)
  | _ => ("TriangleSheet", "faultyWith", "I", false)
def tyX2 : Nat → FieldType := fun k => match k with
  | 0 => .object "TriangleSheet$Points"
  | 1 => .object "TriangleSheet$Triangles"
  | 2 => .array .long
  | 3 => .array .int
  | 4 => .int
  | _ => .int
abbrev wsX20 : List Cond := u_ws RX2 TX2 6
theorem nmX2 : ∀ a, a < 6 → ∀ b, b < 6 → a ≠ b → (TX2 a).2.1 ≠ (TX2 b).2.1 := by decide +kernel
theorem tyX2_ok : ∀ k, k < 6 → parseFieldDescriptor (TX2 k).2.2.1 = some (tyX2 k) := by decide +kernel
abbrev cX2_init : ByteArray := prog_1_method_1_code
def yX2_init : MethodName := ⟨RX2, "<init>", "()V"⟩
abbrev cX2_point : ByteArray := prog_1_method_2_code
def yX2_point : MethodName := ⟨RX2, "point", "(II)I"⟩
abbrev cX2_move : ByteArray := prog_1_method_3_code
def yX2_move : MethodName := ⟨RX2, "move", "(III)V"⟩
abbrev cX2_triangle : ByteArray := prog_1_method_4_code
def yX2_triangle : MethodName := ⟨RX2, "triangle", "(III)I"⟩
abbrev cX2_take : ByteArray := prog_1_method_5_code
def yX2_take : MethodName := ⟨RX2, "take", "(I)V"⟩
abbrev cX2_part : ByteArray := prog_1_method_6_code
def yX2_part : MethodName := ⟨RX2, "part", "(III)I"⟩
abbrev cX2_turn : ByteArray := prog_1_method_7_code
def yX2_turn : MethodName := ⟨RX2, "turn", "(II)Z"⟩
abbrev cX2_improve : ByteArray := prog_1_method_8_code
def yX2_improve : MethodName := ⟨RX2, "improve", "(I)I"⟩
abbrev cX2_fault : ByteArray := prog_1_method_9_code
def yX2_fault : MethodName := ⟨RX2, "fault", "()I"⟩
abbrev cX2_culprit : ByteArray := prog_1_method_10_code
def yX2_culprit : MethodName := ⟨RX2, "culprit", "(I)I"⟩
abbrev cX2_covers : ByteArray := prog_1_method_11_code
def yX2_covers : MethodName := ⟨RX2, "covers", "(II)I"⟩
abbrev cX2_who : ByteArray := prog_1_method_12_code
def yX2_who : MethodName := ⟨RX2, "who", "(II)I"⟩
abbrev cX2_painted : ByteArray := prog_1_method_13_code
def yX2_painted : MethodName := ⟨RX2, "painted", "(I)J"⟩
abbrev cX2_locate : ByteArray := prog_1_method_14_code
def yX2_locate : MethodName := ⟨RX2, "locate", "(II)I"⟩
abbrev cX2_beside : ByteArray := prog_1_method_15_code
def yX2_beside : MethodName := ⟨RX2, "beside", "(II)I"⟩
abbrev cX2_isGood : ByteArray := prog_1_method_16_code
def yX2_isGood : MethodName := ⟨RX2, "isGood", "(II)Z"⟩
abbrev cX2_corner : ByteArray := prog_1_method_17_code
def yX2_corner : MethodName := ⟨RX2, "corner", "(II)I"⟩
abbrev cX2_count : ByteArray := prog_1_method_18_code
def yX2_count : MethodName := ⟨RX2, "count", "(I)I"⟩
abbrev cX2_isPlace : ByteArray := prog_1_method_19_code
def yX2_isPlace : MethodName := ⟨RX2, "isPlace", "(II)Z"⟩
abbrev cX2_isPixel : ByteArray := prog_1_method_20_code
def yX2_isPixel : MethodName := ⟨RX2, "isPixel", "(II)Z"⟩
abbrev cX2_sampleOf : ByteArray := prog_1_method_21_code
def yX2_sampleOf : MethodName := ⟨RX2, "sampleOf", "(I)I"⟩
abbrev cX2_isEdge : ByteArray := prog_1_method_22_code
def yX2_isEdge : MethodName := ⟨RX2, "isEdge", "(II)Z"⟩
abbrev cX2_turnOf : ByteArray := prog_1_method_23_code
def yX2_turnOf : MethodName := ⟨RX2, "turnOf", "(I)I"⟩
abbrev cX2_isRight : ByteArray := prog_1_method_24_code
def yX2_isRight : MethodName := ⟨RX2, "isRight", "(I)Z"⟩
abbrev cX2_turnBesideEdge : ByteArray := prog_1_method_25_code
def yX2_turnBesideEdge : MethodName := ⟨RX2, "turnBesideEdge", "(IIII)I"⟩
abbrev cX2_hasPlace : ByteArray := prog_1_method_26_code
def yX2_hasPlace : MethodName := ⟨RX2, "hasPlace", "(III)Z"⟩
abbrev cX2_isWithin : ByteArray := prog_1_method_27_code
def yX2_isWithin : MethodName := ⟨RX2, "isWithin", "(III)Z"⟩
abbrev cX2_coversPixel : ByteArray := prog_1_method_28_code
def yX2_coversPixel : MethodName := ⟨RX2, "coversPixel", "(III)Z"⟩
abbrev cX2_liesInsideOrOnOwnEdges : ByteArray := prog_1_method_29_code
def yX2_liesInsideOrOnOwnEdges : MethodName := ⟨RX2, "liesInsideOrOnOwnEdges", "(III)Z"⟩
abbrev cX2_ownsEdge : ByteArray := prog_1_method_30_code
def yX2_ownsEdge : MethodName := ⟨RX2, "ownsEdge", "(II)Z"⟩
abbrev cX2_paintedPixels : ByteArray := prog_1_method_31_code
def yX2_paintedPixels : MethodName := ⟨RX2, "paintedPixels", "(I)J"⟩
abbrev cX2_paintedInRow : ByteArray := prog_1_method_32_code
def yX2_paintedInRow : MethodName := ⟨RX2, "paintedInRow", "(II)I"⟩
abbrev cX2_coveredBits : ByteArray := prog_1_method_33_code
def yX2_coveredBits : MethodName := ⟨RX2, "coveredBits", "(II)I"⟩
abbrev cX2_sumOfTurns : ByteArray := prog_1_method_34_code
def yX2_sumOfTurns : MethodName := ⟨RX2, "sumOfTurns", "()J"⟩
abbrev cX2_leftmost : ByteArray := prog_1_method_35_code
def yX2_leftmost : MethodName := ⟨RX2, "leftmost", "(I)I"⟩
abbrev cX2_rightmost : ByteArray := prog_1_method_36_code
def yX2_rightmost : MethodName := ⟨RX2, "rightmost", "(I)I"⟩
abbrev cX2_lowest : ByteArray := prog_1_method_37_code
def yX2_lowest : MethodName := ⟨RX2, "lowest", "(I)I"⟩
abbrev cX2_highest : ByteArray := prog_1_method_38_code
def yX2_highest : MethodName := ⟨RX2, "highest", "(I)I"⟩
abbrev cX2_cornerX : ByteArray := prog_1_method_39_code
def yX2_cornerX : MethodName := ⟨RX2, "cornerX", "(II)I"⟩
abbrev cX2_cornerY : ByteArray := prog_1_method_40_code
def yX2_cornerY : MethodName := ⟨RX2, "cornerY", "(II)I"⟩
abbrev cX2_rememberCulprits : ByteArray := prog_1_method_41_code
def yX2_rememberCulprits : MethodName := ⟨RX2, "rememberCulprits", "(II)V"⟩
abbrev cX2_firstUntidyBefore : ByteArray := prog_1_method_42_code
def yX2_firstUntidyBefore : MethodName := ⟨RX2, "firstUntidyBefore", "(I)I"⟩
abbrev cX2_areTidy : ByteArray := prog_1_method_43_code
def yX2_areTidy : MethodName := ⟨RX2, "areTidy", "(II)Z"⟩
abbrev cX2_areFarApart : ByteArray := prog_1_method_44_code
def yX2_areFarApart : MethodName := ⟨RX2, "areFarApart", "(II)Z"⟩
abbrev cX2_haveSameCorners : ByteArray := prog_1_method_45_code
def yX2_haveSameCorners : MethodName := ⟨RX2, "haveSameCorners", "(II)Z"⟩
abbrev cX2_reachesInto : ByteArray := prog_1_method_46_code
def yX2_reachesInto : MethodName := ⟨RX2, "reachesInto", "(II)Z"⟩
abbrev cX2_crossesAnEdgeOf : ByteArray := prog_1_method_47_code
def yX2_crossesAnEdgeOf : MethodName := ⟨RX2, "crossesAnEdgeOf", "(II)Z"⟩
abbrev cX2_isGoodEdge : ByteArray := prog_1_method_48_code
def yX2_isGoodEdge : MethodName := ⟨RX2, "isGoodEdge", "(II)Z"⟩
abbrev cX2_turnEdge : ByteArray := prog_1_method_49_code
def yX2_turnEdge : MethodName := ⟨RX2, "turnEdge", "(II)Z"⟩
abbrev cX2_turnFirstBadEdge : ByteArray := prog_1_method_50_code
def yX2_turnFirstBadEdge : MethodName := ⟨RX2, "turnFirstBadEdge", "()Z"⟩
abbrev cX2_countCornerPoints : ByteArray := prog_1_method_51_code
def yX2_countCornerPoints : MethodName := ⟨RX2, "countCornerPoints", "()I"⟩
abbrev cX2_countDifferentEdges : ByteArray := prog_1_method_52_code
def yX2_countDifferentEdges : MethodName := ⟨RX2, "countDifferentEdges", "()I"⟩
abbrev cX2_bitOf : ByteArray := prog_1_method_53_code
def yX2_bitOf : MethodName := ⟨RX2, "bitOf", "(I)J"⟩
abbrev cX2_countLonelyEdges : ByteArray := prog_1_method_54_code
def yX2_countLonelyEdges : MethodName := ⟨RX2, "countLonelyEdges", "()I"⟩
abbrev cX2_countBadEdges : ByteArray := prog_1_method_55_code
def yX2_countBadEdges : MethodName := ⟨RX2, "countBadEdges", "()I"⟩
abbrev cX2_countPieces : ByteArray := prog_1_method_56_code
def yX2_countPieces : MethodName := ⟨RX2, "countPieces", "()I"⟩
abbrev cX2_renamePiece : ByteArray := prog_1_method_57_code
def yX2_renamePiece : MethodName := ⟨RX2, "renamePiece", "(II)V"⟩
def RX3 : String := "TriangleSheetModel"
def TX3 : u_T := fun k => match k with
  | 0 => ("TriangleSheetModel", "thrown", "I", false)
  | 1 => ("TriangleSheetModel", "points", "I", false)
  | 2 => ("TriangleSheetModel", "came", "I", false)
  | 3 => ("TriangleSheetModel", "there", "I", false)
  | 4 => ("TriangleSheetModel", "px", "[I", true)
  | 5 => ("TriangleSheetModel", "py", "[I", true)
  | 6 => ("TriangleSheetModel", "is", "[Z", true)
  | 7 => ("TriangleSheetModel", "corners", "[I", true)
  | 8 => ("TriangleSheetModel", "first", "I", false)
  | 9 => ("TriangleSheetModel", "second", "I", false)
  | _ => ("TriangleSheetModel", "marks", "[I", true)
def tyX3 : Nat → FieldType := fun k => match k with
  | 0 => .int
  | 1 => .int
  | 2 => .int
  | 3 => .int
  | 4 => .array .int
  | 5 => .array .int
  | 6 => .array .boolean
  | 7 => .array .int
  | 8 => .int
  | 9 => .int
  | _ => .array .int
abbrev wsX30 : List Cond := u_ws RX3 TX3 11
theorem nmX3 : ∀ a, a < 11 → ∀ b, b < 11 → a ≠ b → (TX3 a).2.1 ≠ (TX3 b).2.1 := by decide +kernel
theorem tyX3_ok : ∀ k, k < 11 → parseFieldDescriptor (TX3 k).2.2.1 = some (tyX3 k) := by decide +kernel
abbrev cX3_init : ByteArray := prog_5_method_1_code
def yX3_init : MethodName := ⟨RX3, "<init>", "()V"⟩
abbrev cX3_thrown : ByteArray := prog_5_method_2_code
def yX3_thrown : MethodName := ⟨RX3, "thrown", "()I"⟩
abbrev cX3_in : ByteArray := prog_5_method_3_code
def yX3_in : MethodName := ⟨RX3, "in", "(II)Z"⟩
abbrev cX3_turnOf : ByteArray := prog_5_method_4_code
def yX3_turnOf : MethodName := ⟨RX3, "turnOf", "(JJJJJJ)J"⟩
abbrev cX3_turnOfPoints : ByteArray := prog_5_method_5_code
def yX3_turnOfPoints : MethodName := ⟨RX3, "turnOfPoints", "(III)J"⟩
abbrev cX3_pointAt : ByteArray := prog_5_method_6_code
def yX3_pointAt : MethodName := ⟨RX3, "pointAt", "(II)I"⟩
abbrev cX3_at : ByteArray := prog_5_method_7_code
def yX3_at : MethodName := ⟨RX3, "at", "(II)I"⟩
abbrev cX3_isThere : ByteArray := prog_5_method_8_code
def yX3_isThere : MethodName := ⟨RX3, "isThere", "(I)Z"⟩
abbrev cX3_twice : ByteArray := prog_5_method_9_code
def yX3_twice : MethodName := ⟨RX3, "twice", "(I)J"⟩
abbrev cX3_isRight : ByteArray := prog_5_method_10_code
def yX3_isRight : MethodName := ⟨RX3, "isRight", "(I)Z"⟩
abbrev cX3_hasPlace : ByteArray := prog_5_method_11_code
def yX3_hasPlace : MethodName := ⟨RX3, "hasPlace", "(IJJ)Z"⟩
abbrev cX3_isCorner : ByteArray := prog_5_method_12_code
def yX3_isCorner : MethodName := ⟨RX3, "isCorner", "(II)Z"⟩
abbrev cX3_sign : ByteArray := prog_5_method_13_code
def yX3_sign : MethodName := ⟨RX3, "sign", "(J)I"⟩
abbrev cX3_isBetween : ByteArray := prog_5_method_14_code
def yX3_isBetween : MethodName := ⟨RX3, "isBetween", "(III)Z"⟩
abbrev cX3_isOdd : ByteArray := prog_5_method_15_code
def yX3_isOdd : MethodName := ⟨RX3, "isOdd", "(IIII)Z"⟩
abbrev cX3_isTidy : ByteArray := prog_5_method_16_code
def yX3_isTidy : MethodName := ⟨RX3, "isTidy", "(II)Z"⟩
abbrev cX3_isCovered : ByteArray := prog_5_method_17_code
def yX3_isCovered : MethodName := ⟨RX3, "isCovered", "(III)Z"⟩
abbrev cX3_howMany : ByteArray := prog_5_method_18_code
def yX3_howMany : MethodName := ⟨RX3, "howMany", "(II)I"⟩
abbrev cX3_neighbour : ByteArray := prog_5_method_19_code
def yX3_neighbour : MethodName := ⟨RX3, "neighbour", "(II)I"⟩
abbrev cX3_beyond : ByteArray := prog_5_method_20_code
def yX3_beyond : MethodName := ⟨RX3, "beyond", "(III)I"⟩
abbrev cX3_determinant : ByteArray := prog_5_method_21_code
def yX3_determinant : MethodName := ⟨RX3, "determinant", "(JJJJJJJJJ)J"⟩
abbrev cX3_good : ByteArray := prog_5_method_22_code
def yX3_good : MethodName := ⟨RX3, "good", "(II)Z"⟩
abbrev cX3_set : ByteArray := prog_5_method_23_code
def yX3_set : MethodName := ⟨RX3, "set", "(IIII)V"⟩
abbrev cX3_turned : ByteArray := prog_5_method_24_code
def yX3_turned : MethodName := ⟨RX3, "turned", "(II)Z"⟩
abbrev cX3_isPlace : ByteArray := prog_5_method_25_code
def yX3_isPlace : MethodName := ⟨RX3, "isPlace", "(II)Z"⟩
abbrev cX3_point : ByteArray := prog_5_method_26_code
def yX3_point : MethodName := ⟨RX3, "point", "(II)I"⟩
abbrev cX3_move : ByteArray := prog_5_method_27_code
def yX3_move : MethodName := ⟨RX3, "move", "(III)V"⟩
abbrev cX3_add : ByteArray := prog_5_method_28_code
def yX3_add : MethodName := ⟨RX3, "add", "(III)I"⟩
abbrev cX3_triangle : ByteArray := prog_5_method_29_code
def yX3_triangle : MethodName := ⟨RX3, "triangle", "(III)I"⟩
abbrev cX3_take : ByteArray := prog_5_method_30_code
def yX3_take : MethodName := ⟨RX3, "take", "(I)V"⟩
abbrev cX3_part : ByteArray := prog_5_method_31_code
def yX3_part : MethodName := ⟨RX3, "part", "(III)I"⟩
abbrev cX3_turn : ByteArray := prog_5_method_32_code
def yX3_turn : MethodName := ⟨RX3, "turn", "(II)Z"⟩
abbrev cX3_improves : ByteArray := prog_5_method_33_code
def yX3_improves : MethodName := ⟨RX3, "improves", "()Z"⟩
abbrev cX3_improve : ByteArray := prog_5_method_34_code
def yX3_improve : MethodName := ⟨RX3, "improve", "(I)I"⟩
abbrev cX3_blame : ByteArray := prog_5_method_35_code
def yX3_blame : MethodName := ⟨RX3, "blame", "(III)I"⟩
abbrev cX3_fault : ByteArray := prog_5_method_36_code
def yX3_fault : MethodName := ⟨RX3, "fault", "()I"⟩
abbrev cX3_culprit : ByteArray := prog_5_method_37_code
def yX3_culprit : MethodName := ⟨RX3, "culprit", "(I)I"⟩
abbrev cX3_covers : ByteArray := prog_5_method_38_code
def yX3_covers : MethodName := ⟨RX3, "covers", "(II)I"⟩
abbrev cX3_who : ByteArray := prog_5_method_39_code
def yX3_who : MethodName := ⟨RX3, "who", "(II)I"⟩
abbrev cX3_painted : ByteArray := prog_5_method_40_code
def yX3_painted : MethodName := ⟨RX3, "painted", "(I)J"⟩
abbrev cX3_locate : ByteArray := prog_5_method_41_code
def yX3_locate : MethodName := ⟨RX3, "locate", "(II)I"⟩
abbrev cX3_beside : ByteArray := prog_5_method_42_code
def yX3_beside : MethodName := ⟨RX3, "beside", "(II)I"⟩
abbrev cX3_isGood : ByteArray := prog_5_method_43_code
def yX3_isGood : MethodName := ⟨RX3, "isGood", "(II)Z"⟩
abbrev cX3_corner : ByteArray := prog_5_method_44_code
def yX3_corner : MethodName := ⟨RX3, "corner", "(II)I"⟩
abbrev cX3_cornerPoints : ByteArray := prog_5_method_45_code
def yX3_cornerPoints : MethodName := ⟨RX3, "cornerPoints", "()I"⟩
abbrev cX3_hasSide : ByteArray := prog_5_method_46_code
def yX3_hasSide : MethodName := ⟨RX3, "hasSide", "(III)Z"⟩
abbrev cX3_sides : ByteArray := prog_5_method_47_code
def yX3_sides : MethodName := ⟨RX3, "sides", "()I"⟩
abbrev cX3_pieces : ByteArray := prog_5_method_48_code
def yX3_pieces : MethodName := ⟨RX3, "pieces", "()I"⟩
abbrev cX3_edges : ByteArray := prog_5_method_49_code
def yX3_edges : MethodName := ⟨RX3, "edges", "(Z)I"⟩
abbrev cX3_count : ByteArray := prog_5_method_50_code
def yX3_count : MethodName := ⟨RX3, "count", "(I)I"⟩
def RJ6 : String := "java/lang/Integer"
def TJ6 : u_T := fun k => match k with
  | _ => ("", "", "", false)
def tyJ6 : Nat → FieldType := fun k => match k with
  | _ => .int
abbrev wsJ60 : List Cond := u_ws RJ6 TJ6 0
theorem nmJ6 : ∀ a, a < 0 → ∀ b, b < 0 → a ≠ b → (TJ6 a).2.1 ≠ (TJ6 b).2.1 := by decide +kernel
theorem tyJ6_ok : ∀ k, k < 0 → parseFieldDescriptor (TJ6 k).2.2.1 = some (tyJ6 k) := by decide +kernel
abbrev cJ6_bitCount_0f7a4 : ByteArray := prog_10_method_49_code
def yJ6_bitCount_0f7a4 : MethodName := ⟨RJ6, "bitCount", "(I)I"⟩
def RJ13 : String := "java/lang/Long"
def TJ13 : u_T := fun k => match k with
  | _ => ("", "", "", false)
def tyJ13 : Nat → FieldType := fun k => match k with
  | _ => .int
abbrev wsJ130 : List Cond := u_ws RJ13 TJ13 0
theorem nmJ13 : ∀ a, a < 0 → ∀ b, b < 0 → a ≠ b → (TJ13 a).2.1 ≠ (TJ13 b).2.1 := by decide +kernel
theorem tyJ13_ok : ∀ k, k < 0 → parseFieldDescriptor (TJ13 k).2.2.1 = some (tyJ13 k) := by decide +kernel
abbrev cJ13_bitCount_95d88 : ByteArray := prog_11_method_50_code
def yJ13_bitCount_95d88 : MethodName := ⟨RJ13, "bitCount", "(J)I"⟩
def RJ9 : String := "java/lang/Math"
def TJ9 : u_T := fun k => match k with
  | _ => ("", "", "", false)
def tyJ9 : Nat → FieldType := fun k => match k with
  | _ => .int
abbrev wsJ90 : List Cond := u_ws RJ9 TJ9 0
theorem nmJ9 : ∀ a, a < 0 → ∀ b, b < 0 → a ≠ b → (TJ9 a).2.1 ≠ (TJ9 b).2.1 := by decide +kernel
theorem tyJ9_ok : ∀ k, k < 0 → parseFieldDescriptor (TJ9 k).2.2.1 = some (tyJ9 k) := by decide +kernel
abbrev cJ9_max_7cf53 : ByteArray := prog_12_method_65_code
def yJ9_max_7cf53 : MethodName := ⟨RJ9, "max", "(II)I"⟩
abbrev cJ9_min_7cf53 : ByteArray := prog_12_method_69_code
def yJ9_min_7cf53 : MethodName := ⟨RJ9, "min", "(II)I"⟩
def RJ0 : String := "java/lang/String"
def TJ0 : u_T := fun k => match k with
  | _ => ("", "", "", false)
def tyJ0 : Nat → FieldType := fun k => match k with
  | _ => .int
abbrev wsJ00 : List Cond := u_ws RJ0 TJ0 0
theorem nmJ0 : ∀ a, a < 0 → ∀ b, b < 0 → a ≠ b → (TJ0 a).2.1 ≠ (TJ0 b).2.1 := by decide +kernel
theorem tyJ0_ok : ∀ k, k < 0 → parseFieldDescriptor (TJ0 k).2.2.1 = some (tyJ0 k) := by decide +kernel
def RJ7 : String := "java/util/Arrays"
def TJ7 : u_T := fun k => match k with
  | _ => ("", "", "", false)
def tyJ7 : Nat → FieldType := fun k => match k with
  | _ => .int
abbrev wsJ70 : List Cond := u_ws RJ7 TJ7 0
theorem nmJ7 : ∀ a, a < 0 → ∀ b, b < 0 → a ≠ b → (TJ7 a).2.1 ≠ (TJ7 b).2.1 := by decide +kernel
theorem tyJ7_ok : ∀ k, k < 0 → parseFieldDescriptor (TJ7 k).2.2.1 = some (tyJ7 k) := by decide +kernel
abbrev cJ7_fill_d0a16 : ByteArray := prog_16_method_101_code
def yJ7_fill_d0a16 : MethodName := ⟨RJ7, "fill", "([JJ)V"⟩
def RL : String := "TriangleSheetLaw"
abbrev cL_point : ByteArray := method_3_code
def yL_point : MethodName := ⟨RL, "point", "(LTriangleSheet;II[J)I"⟩
abbrev cL_move : ByteArray := method_4_code
def yL_move : MethodName := ⟨RL, "move", "(LTriangleSheet;III)I"⟩
abbrev cL_triangle : ByteArray := method_5_code
def yL_triangle : MethodName := ⟨RL, "triangle", "(LTriangleSheet;III[J)I"⟩
abbrev cL_take : ByteArray := method_6_code
def yL_take : MethodName := ⟨RL, "take", "(LTriangleSheet;I)I"⟩
abbrev cL_part : ByteArray := method_7_code
def yL_part : MethodName := ⟨RL, "part", "(LTriangleSheet;III[J)I"⟩
abbrev cL_turn : ByteArray := method_8_code
def yL_turn : MethodName := ⟨RL, "turn", "(LTriangleSheet;II[J)I"⟩
abbrev cL_improve : ByteArray := method_9_code
def yL_improve : MethodName := ⟨RL, "improve", "(LTriangleSheet;I[J)I"⟩
abbrev cL_law : ByteArray := code
def yL_law : MethodName := ⟨RL, "law", "([I)Z"⟩
def wsX0_init : List Cond := .code yX0_init cX0_init 1 none :: ([.methodLink RX0 3 objectInit, .instanceMethod objectInit, .code objectInit ⟨#[0xb1]⟩ 1 none, .arrayClass .int, .fieldLink RX0 9 "TriangleSheet$Points" "xs" "[I", .fieldLink RX0 15 "TriangleSheet$Points" "ys" "[I", .fieldLink RX0 18 "TriangleSheet$Points" "came" "I"] ++ wsX00)
def wsX0_came : List Cond := .code yX0_came cX0_came 1 (some .int) :: ([.fieldLink RX0 18 "TriangleSheet$Points" "came" "I"] ++ wsX00)
def wsX0_isPoint : List Cond := .code yX0_isPoint cX0_isPoint 2 (some .boolean) :: ([.fieldLink RX0 18 "TriangleSheet$Points" "came" "I"] ++ wsX00)
def wsX0_x : List Cond := .code yX0_x cX0_x 2 (some .int) :: ([.fieldLink RX0 9 "TriangleSheet$Points" "xs" "[I"] ++ wsX00)
def wsX0_y : List Cond := .code yX0_y cX0_y 2 (some .int) :: ([.fieldLink RX0 15 "TriangleSheet$Points" "ys" "[I"] ++ wsX00)
def wsX0_pointAt : List Cond := .code yX0_pointAt cX0_pointAt 4 (some .int) :: ([.fieldLink RX0 18 "TriangleSheet$Points" "came" "I", .fieldLink RX0 9 "TriangleSheet$Points" "xs" "[I", .fieldLink RX0 15 "TriangleSheet$Points" "ys" "[I"] ++ wsX00)
def wsX0_canAdd : List Cond := .code yX0_canAdd cX0_canAdd 3 (some .boolean) :: ([.fieldLink RX0 18 "TriangleSheet$Points" "came" "I", .methodLink RX0 22 yX0_pointAt, .instanceMethod yX0_pointAt, .selects RX0 yX0_pointAt yX0_pointAt, .initialized RX0, .code yX0_pointAt cX0_pointAt 4 (some .int), .fieldLink RX0 9 "TriangleSheet$Points" "xs" "[I", .fieldLink RX0 15 "TriangleSheet$Points" "ys" "[I"] ++ wsX00)
def wsX0_put : List Cond := .code yX0_put cX0_put 4 none :: ([.fieldLink RX0 9 "TriangleSheet$Points" "xs" "[I", .fieldLink RX0 15 "TriangleSheet$Points" "ys" "[I"] ++ wsX00)
def wsX0_add : List Cond := .code yX0_add cX0_add 4 (some .int) :: ([.fieldLink RX0 18 "TriangleSheet$Points" "came" "I", .methodLink RX0 26 yX0_put, .instanceMethod yX0_put, .selects RX0 yX0_put yX0_put, .initialized RX0, .code yX0_put cX0_put 4 none, .fieldLink RX0 9 "TriangleSheet$Points" "xs" "[I", .fieldLink RX0 15 "TriangleSheet$Points" "ys" "[I"] ++ wsX00)
def wsX0_turnAt : List Cond := .code yX0_turnAt cX0_turnAt 5 (some .int) :: ([.fieldLink RX0 9 "TriangleSheet$Points" "xs" "[I", .fieldLink RX0 15 "TriangleSheet$Points" "ys" "[I"] ++ wsX00)
def wsX0_turnOf : List Cond := .code yX0_turnOf cX0_turnOf 4 (some .int) :: ([.fieldLink RX0 9 "TriangleSheet$Points" "xs" "[I", .fieldLink RX0 15 "TriangleSheet$Points" "ys" "[I", .methodLink RX0 30 yX0_turnAt, .instanceMethod yX0_turnAt, .selects RX0 yX0_turnAt yX0_turnAt, .initialized RX0, .code yX0_turnAt cX0_turnAt 5 (some .int)] ++ wsX00)
def wsX0_areOpposite : List Cond := .code yX0_areOpposite cX0_areOpposite 2 (some .boolean) :: ([])
def wsX0_isCrossing : List Cond := .code yX0_isCrossing cX0_isCrossing 5 (some .boolean) :: ([.methodLink RX0 34 yX0_turnOf, .instanceMethod yX0_turnOf, .selects RX0 yX0_turnOf yX0_turnOf, .initialized RX0, .code yX0_turnOf cX0_turnOf 4 (some .int), .fieldLink RX0 9 "TriangleSheet$Points" "xs" "[I", .fieldLink RX0 15 "TriangleSheet$Points" "ys" "[I", .methodLink RX0 30 yX0_turnAt, .instanceMethod yX0_turnAt, .selects RX0 yX0_turnAt yX0_turnAt, .code yX0_turnAt cX0_turnAt 5 (some .int), .methodLink RX0 38 yX0_areOpposite, .static yX0_areOpposite, .code yX0_areOpposite cX0_areOpposite 2 (some .boolean)] ++ wsX00)
def wsX0_circleSide : List Cond := .code yX0_circleSide cX0_circleSide 17 (some .long) :: ([.fieldLink RX0 9 "TriangleSheet$Points" "xs" "[I", .fieldLink RX0 15 "TriangleSheet$Points" "ys" "[I"] ++ wsX00)
def wsX1_init : List Cond := .code yX1_init cX1_init 1 none :: ([.methodLink RX1 3 objectInit, .instanceMethod objectInit, .code objectInit ⟨#[0xb1]⟩ 1 none, .arrayClass .int, .fieldLink RX1 9 "TriangleSheet$Triangles" "corners" "[I", .fieldLink RX1 15 "TriangleSheet$Triangles" "there" "[I", .fieldLink RX1 18 "TriangleSheet$Triangles" "thereCount" "I", .fieldLink RX1 22 "TriangleSheet$Triangles" "came" "I"] ++ wsX10)
def wsX1_came : List Cond := .code yX1_came cX1_came 1 (some .int) :: ([.fieldLink RX1 22 "TriangleSheet$Triangles" "came" "I"] ++ wsX10)
def wsX1_thereCount : List Cond := .code yX1_thereCount cX1_thereCount 1 (some .int) :: ([.fieldLink RX1 18 "TriangleSheet$Triangles" "thereCount" "I"] ++ wsX10)
def wsX1_numberAt : List Cond := .code yX1_numberAt cX1_numberAt 2 (some .int) :: ([.fieldLink RX1 15 "TriangleSheet$Triangles" "there" "[I"] ++ wsX10)
def wsX1_isThere : List Cond := .code yX1_isThere cX1_isThere 3 (some .boolean) :: ([.fieldLink RX1 18 "TriangleSheet$Triangles" "thereCount" "I", .fieldLink RX1 15 "TriangleSheet$Triangles" "there" "[I"] ++ wsX10)
def wsX1_canAdd : List Cond := .code yX1_canAdd cX1_canAdd 2 (some .boolean) :: ([.fieldLink RX1 18 "TriangleSheet$Triangles" "thereCount" "I", .fieldLink RX1 22 "TriangleSheet$Triangles" "came" "I"] ++ wsX10)
def wsX1_put : List Cond := .code yX1_put cX1_put 5 none :: ([.fieldLink RX1 9 "TriangleSheet$Triangles" "corners" "[I"] ++ wsX10)
def wsX1_add : List Cond := .code yX1_add cX1_add 5 (some .int) :: ([.fieldLink RX1 22 "TriangleSheet$Triangles" "came" "I", .fieldLink RX1 15 "TriangleSheet$Triangles" "there" "[I", .fieldLink RX1 18 "TriangleSheet$Triangles" "thereCount" "I", .methodLink RX1 25 yX1_put, .instanceMethod yX1_put, .selects RX1 yX1_put yX1_put, .initialized RX1, .code yX1_put cX1_put 5 none, .fieldLink RX1 9 "TriangleSheet$Triangles" "corners" "[I"] ++ wsX10)
def wsX1_remove : List Cond := .code yX1_remove cX1_remove 4 none :: ([.fieldLink RX1 18 "TriangleSheet$Triangles" "thereCount" "I", .fieldLink RX1 15 "TriangleSheet$Triangles" "there" "[I"] ++ wsX10)
def wsX1_cornerOf : List Cond := .code yX1_cornerOf cX1_cornerOf 3 (some .int) :: ([.fieldLink RX1 9 "TriangleSheet$Triangles" "corners" "[I"] ++ wsX10)
def wsX1_hasCorner : List Cond := .code yX1_hasCorner cX1_hasCorner 3 (some .boolean) :: ([.fieldLink RX1 9 "TriangleSheet$Triangles" "corners" "[I"] ++ wsX10)
def wsX1_thirdCorner : List Cond := .code yX1_thirdCorner cX1_thirdCorner 4 (some .int) :: ([.fieldLink RX1 9 "TriangleSheet$Triangles" "corners" "[I"] ++ wsX10)
def wsX1_hasEdge : List Cond := .code yX1_hasEdge cX1_hasEdge 7 (some .boolean) :: ([.fieldLink RX1 9 "TriangleSheet$Triangles" "corners" "[I"] ++ wsX10)
def wsX1_neighbour : List Cond := .code yX1_neighbour cX1_neighbour 6 (some .int) :: ([.fieldLink RX1 18 "TriangleSheet$Triangles" "thereCount" "I", .fieldLink RX1 15 "TriangleSheet$Triangles" "there" "[I", .methodLink RX1 29 yX1_cornerOf, .instanceMethod yX1_cornerOf, .selects RX1 yX1_cornerOf yX1_cornerOf, .initialized RX1, .code yX1_cornerOf cX1_cornerOf 3 (some .int), .fieldLink RX1 9 "TriangleSheet$Triangles" "corners" "[I", .methodLink RX1 33 yX1_hasEdge, .instanceMethod yX1_hasEdge, .selects RX1 yX1_hasEdge yX1_hasEdge, .code yX1_hasEdge cX1_hasEdge 7 (some .boolean)] ++ wsX10)
def wsX2_init_r1 : List Cond := [Cond.methodLink RX2 1 objectInit, Cond.instanceMethod objectInit, Cond.code objectInit ⟨#[0xb1]⟩ 1 none, Cond.classLink RX2 7 RX0, Cond.instantiable RX0 3, Cond.initialized RX0, Cond.fieldLink RX2 10 "TriangleSheet" "points" "LTriangleSheet$Points;", Cond.classLink RX2 16 RX1, Cond.instantiable RX1 4, Cond.initialized RX1, Cond.fieldLink RX2 19 "TriangleSheet" "triangles" "LTriangleSheet$Triangles;", Cond.arrayClass .long, Cond.fieldLink RX2 23 "TriangleSheet" "joinedTo" "[J", Cond.arrayClass .int, Cond.fieldLink RX2 27 "TriangleSheet" "pieceOf" "[I", Cond.fieldLink RX2 31 "TriangleSheet" "faulty" "I", Cond.fieldLink RX2 35 "TriangleSheet" "faultyWith" "I", Cond.methodLink RX2 9 yX0_init, Cond.instanceMethod yX0_init, Cond.code yX0_init cX0_init 1 none, Cond.methodLink RX0 3 objectInit, Cond.fieldLink RX0 9 "TriangleSheet$Points" "xs" "[I", Cond.fieldLink RX0 15 "TriangleSheet$Points" "ys" "[I", Cond.fieldLink RX0 18 "TriangleSheet$Points" "came" "I"]
def wsX2_init_r2 : List Cond := [Cond.methodLink RX2 18 yX1_init, Cond.instanceMethod yX1_init, Cond.code yX1_init cX1_init 1 none, Cond.methodLink RX1 3 objectInit, Cond.fieldLink RX1 9 "TriangleSheet$Triangles" "corners" "[I", Cond.fieldLink RX1 15 "TriangleSheet$Triangles" "there" "[I", Cond.fieldLink RX1 18 "TriangleSheet$Triangles" "thereCount" "I", Cond.fieldLink RX1 22 "TriangleSheet$Triangles" "came" "I"]
def wsX2_init : List Cond := .code yX2_init cX2_init 1 none :: ((wsX2_init_r1 ++ wsX2_init_r2) ++ wsX00 ++ wsX20 ++ wsX10)
def wsX2_isPlace : List Cond := .code yX2_isPlace cX2_isPlace 2 (some .boolean) :: ([])
def wsX2_point_r1 : List Cond := [Cond.classLink RX2 42 "java/lang/IllegalArgumentException", Cond.initialized "java/lang/IllegalArgumentException", Cond.classLink RX2 52 "java/lang/IllegalStateException", Cond.initialized "java/lang/IllegalStateException", Cond.fieldLink RX2 10 "TriangleSheet" "points" "LTriangleSheet$Points;", Cond.methodLink RX2 38 yX2_isPlace, Cond.static yX2_isPlace, Cond.initialized RX2, Cond.code yX2_isPlace cX2_isPlace 2 (some .boolean), Cond.methodLink RX2 49 yX0_canAdd, Cond.instanceMethod yX0_canAdd, Cond.selects RX0 yX0_canAdd yX0_canAdd, Cond.initialized RX0, Cond.code yX0_canAdd cX0_canAdd 3 (some .boolean), Cond.fieldLink RX0 18 "TriangleSheet$Points" "came" "I", Cond.methodLink RX0 22 yX0_pointAt, Cond.instanceMethod yX0_pointAt, Cond.selects RX0 yX0_pointAt yX0_pointAt, Cond.code yX0_pointAt cX0_pointAt 4 (some .int), Cond.fieldLink RX0 9 "TriangleSheet$Points" "xs" "[I", Cond.fieldLink RX0 15 "TriangleSheet$Points" "ys" "[I", Cond.methodLink RX2 57 yX0_add, Cond.instanceMethod yX0_add, Cond.selects RX0 yX0_add yX0_add]
def wsX2_point_r2 : List Cond := [Cond.code yX0_add cX0_add 4 (some .int), Cond.methodLink RX0 26 yX0_put, Cond.instanceMethod yX0_put, Cond.selects RX0 yX0_put yX0_put, Cond.code yX0_put cX0_put 4 none]
def wsX2_point : List Cond := .code yX2_point cX2_point 3 (some .int) :: ((wsX2_point_r1 ++ wsX2_point_r2) ++ wsX20 ++ wsX00 ++ (vx_atS RX2 46 "java/lang/IllegalArgumentException" ["java/lang/RuntimeException", "java/lang/Exception"]).filter goodWord ++ (vx_atS RX2 56 "java/lang/IllegalStateException" ["java/lang/RuntimeException", "java/lang/Exception"]).filter goodWord)
def wsX2_move_r1 : List Cond := [Cond.classLink RX2 65 "java/lang/IndexOutOfBoundsException", Cond.initialized "java/lang/IndexOutOfBoundsException", Cond.classLink RX2 42 "java/lang/IllegalArgumentException", Cond.initialized "java/lang/IllegalArgumentException", Cond.classLink RX2 52 "java/lang/IllegalStateException", Cond.initialized "java/lang/IllegalStateException", Cond.fieldLink RX2 10 "TriangleSheet" "points" "LTriangleSheet$Points;", Cond.methodLink RX2 61 yX0_isPoint, Cond.instanceMethod yX0_isPoint, Cond.selects RX0 yX0_isPoint yX0_isPoint, Cond.initialized RX0, Cond.code yX0_isPoint cX0_isPoint 2 (some .boolean), Cond.fieldLink RX0 18 "TriangleSheet$Points" "came" "I", Cond.methodLink RX2 38 yX2_isPlace, Cond.static yX2_isPlace, Cond.initialized RX2, Cond.code yX2_isPlace cX2_isPlace 2 (some .boolean), Cond.methodLink RX2 70 yX0_pointAt, Cond.instanceMethod yX0_pointAt, Cond.selects RX0 yX0_pointAt yX0_pointAt, Cond.code yX0_pointAt cX0_pointAt 4 (some .int), Cond.fieldLink RX0 9 "TriangleSheet$Points" "xs" "[I", Cond.fieldLink RX0 15 "TriangleSheet$Points" "ys" "[I", Cond.methodLink RX2 75 yX0_put]
def wsX2_move_r2 : List Cond := [Cond.instanceMethod yX0_put, Cond.selects RX0 yX0_put yX0_put, Cond.code yX0_put cX0_put 4 none]
def wsX2_move : List Cond := .code yX2_move cX2_move 5 none :: ((wsX2_move_r1 ++ wsX2_move_r2) ++ wsX20 ++ wsX00 ++ (vx_atS RX2 69 "java/lang/IndexOutOfBoundsException" ["java/lang/RuntimeException", "java/lang/Exception"]).filter goodWord ++ (vx_atS RX2 46 "java/lang/IllegalArgumentException" ["java/lang/RuntimeException", "java/lang/Exception"]).filter goodWord ++ (vx_atS RX2 56 "java/lang/IllegalStateException" ["java/lang/RuntimeException", "java/lang/Exception"]).filter goodWord)
def wsX2_triangle_r1 : List Cond := [Cond.classLink RX2 65 "java/lang/IndexOutOfBoundsException", Cond.initialized "java/lang/IndexOutOfBoundsException", Cond.classLink RX2 42 "java/lang/IllegalArgumentException", Cond.initialized "java/lang/IllegalArgumentException", Cond.classLink RX2 52 "java/lang/IllegalStateException", Cond.initialized "java/lang/IllegalStateException", Cond.fieldLink RX2 10 "TriangleSheet" "points" "LTriangleSheet$Points;", Cond.fieldLink RX2 19 "TriangleSheet" "triangles" "LTriangleSheet$Triangles;", Cond.methodLink RX2 61 yX0_isPoint, Cond.instanceMethod yX0_isPoint, Cond.selects RX0 yX0_isPoint yX0_isPoint, Cond.initialized RX0, Cond.code yX0_isPoint cX0_isPoint 2 (some .boolean), Cond.fieldLink RX0 18 "TriangleSheet$Points" "came" "I", Cond.methodLink RX2 83 yX1_canAdd, Cond.instanceMethod yX1_canAdd, Cond.selects RX1 yX1_canAdd yX1_canAdd, Cond.initialized RX1, Cond.code yX1_canAdd cX1_canAdd 2 (some .boolean), Cond.fieldLink RX1 18 "TriangleSheet$Triangles" "thereCount" "I", Cond.fieldLink RX1 22 "TriangleSheet$Triangles" "came" "I", Cond.methodLink RX2 87 yX1_add, Cond.instanceMethod yX1_add, Cond.selects RX1 yX1_add yX1_add]
def wsX2_triangle_r2 : List Cond := [Cond.code yX1_add cX1_add 5 (some .int), Cond.fieldLink RX1 15 "TriangleSheet$Triangles" "there" "[I", Cond.methodLink RX1 25 yX1_put, Cond.instanceMethod yX1_put, Cond.selects RX1 yX1_put yX1_put, Cond.code yX1_put cX1_put 5 none, Cond.fieldLink RX1 9 "TriangleSheet$Triangles" "corners" "[I"]
def wsX2_triangle : List Cond := .code yX2_triangle cX2_triangle 4 (some .int) :: ((wsX2_triangle_r1 ++ wsX2_triangle_r2) ++ wsX20 ++ wsX00 ++ wsX10 ++ (vx_atS RX2 69 "java/lang/IndexOutOfBoundsException" ["java/lang/RuntimeException", "java/lang/Exception"]).filter goodWord ++ (vx_atS RX2 46 "java/lang/IllegalArgumentException" ["java/lang/RuntimeException", "java/lang/Exception"]).filter goodWord ++ (vx_atS RX2 56 "java/lang/IllegalStateException" ["java/lang/RuntimeException", "java/lang/Exception"]).filter goodWord)
def wsX2_take : List Cond := .code yX2_take cX2_take 2 none :: ([.classLink RX2 65 "java/lang/IndexOutOfBoundsException", .initialized "java/lang/IndexOutOfBoundsException", .fieldLink RX2 19 "TriangleSheet" "triangles" "LTriangleSheet$Triangles;", .methodLink RX2 90 yX1_isThere, .instanceMethod yX1_isThere, .selects RX1 yX1_isThere yX1_isThere, .initialized RX1, .code yX1_isThere cX1_isThere 3 (some .boolean), .fieldLink RX1 18 "TriangleSheet$Triangles" "thereCount" "I", .fieldLink RX1 15 "TriangleSheet$Triangles" "there" "[I", .methodLink RX2 95 yX1_remove, .instanceMethod yX1_remove, .selects RX1 yX1_remove yX1_remove, .code yX1_remove cX1_remove 4 none] ++ wsX20 ++ wsX10 ++ (vx_atS RX2 69 "java/lang/IndexOutOfBoundsException" ["java/lang/RuntimeException", "java/lang/Exception"]).filter goodWord)
def wsX2_turnBesideEdge : List Cond := .code yX2_turnBesideEdge cX2_turnBesideEdge 5 (some .int) :: ([.fieldLink RX2 10 "TriangleSheet" "points" "LTriangleSheet$Points;", .fieldLink RX2 19 "TriangleSheet" "triangles" "LTriangleSheet$Triangles;", .methodLink RX2 107 yX1_cornerOf, .instanceMethod yX1_cornerOf, .selects RX1 yX1_cornerOf yX1_cornerOf, .initialized RX1, .code yX1_cornerOf cX1_cornerOf 3 (some .int), .fieldLink RX1 9 "TriangleSheet$Triangles" "corners" "[I", .methodLink RX2 194 yX0_turnAt, .instanceMethod yX0_turnAt, .selects RX0 yX0_turnAt yX0_turnAt, .initialized RX0, .code yX0_turnAt cX0_turnAt 5 (some .int), .fieldLink RX0 9 "TriangleSheet$Points" "xs" "[I", .fieldLink RX0 15 "TriangleSheet$Points" "ys" "[I"] ++ wsX20 ++ wsX10 ++ wsX00)
def wsX2_isWithin : List Cond := .code yX2_isWithin cX2_isWithin 5 (some .boolean) :: ([.methodLink RX2 198 yX2_turnBesideEdge, .instanceMethod yX2_turnBesideEdge, .selects RX2 yX2_turnBesideEdge yX2_turnBesideEdge, .initialized RX2, .code yX2_turnBesideEdge cX2_turnBesideEdge 5 (some .int), .fieldLink RX2 10 "TriangleSheet" "points" "LTriangleSheet$Points;", .fieldLink RX2 19 "TriangleSheet" "triangles" "LTriangleSheet$Triangles;", .methodLink RX2 107 yX1_cornerOf, .instanceMethod yX1_cornerOf, .selects RX1 yX1_cornerOf yX1_cornerOf, .initialized RX1, .code yX1_cornerOf cX1_cornerOf 3 (some .int), .fieldLink RX1 9 "TriangleSheet$Triangles" "corners" "[I", .methodLink RX2 194 yX0_turnAt, .instanceMethod yX0_turnAt, .selects RX0 yX0_turnAt yX0_turnAt, .initialized RX0, .code yX0_turnAt cX0_turnAt 5 (some .int), .fieldLink RX0 9 "TriangleSheet$Points" "xs" "[I", .fieldLink RX0 15 "TriangleSheet$Points" "ys" "[I"] ++ wsX20 ++ wsX10 ++ wsX00)
def wsX2_part_r1 : List Cond := [Cond.classLink RX2 65 "java/lang/IndexOutOfBoundsException", Cond.initialized "java/lang/IndexOutOfBoundsException", Cond.classLink RX2 42 "java/lang/IllegalArgumentException", Cond.initialized "java/lang/IllegalArgumentException", Cond.classLink RX2 52 "java/lang/IllegalStateException", Cond.initialized "java/lang/IllegalStateException", Cond.fieldLink RX2 19 "TriangleSheet" "triangles" "LTriangleSheet$Triangles;", Cond.fieldLink RX2 10 "TriangleSheet" "points" "LTriangleSheet$Points;", Cond.methodLink RX2 90 yX1_isThere, Cond.instanceMethod yX1_isThere, Cond.selects RX1 yX1_isThere yX1_isThere, Cond.initialized RX1, Cond.code yX1_isThere cX1_isThere 3 (some .boolean), Cond.fieldLink RX1 18 "TriangleSheet$Triangles" "thereCount" "I", Cond.fieldLink RX1 15 "TriangleSheet$Triangles" "there" "[I", Cond.methodLink RX2 38 yX2_isPlace, Cond.static yX2_isPlace, Cond.initialized RX2, Cond.code yX2_isPlace cX2_isPlace 2 (some .boolean), Cond.methodLink RX2 99 yX2_isWithin, Cond.instanceMethod yX2_isWithin, Cond.selects RX2 yX2_isWithin yX2_isWithin, Cond.code yX2_isWithin cX2_isWithin 5 (some .boolean), Cond.methodLink RX2 198 yX2_turnBesideEdge]
def wsX2_part_r2 : List Cond := [Cond.instanceMethod yX2_turnBesideEdge, Cond.selects RX2 yX2_turnBesideEdge yX2_turnBesideEdge, Cond.code yX2_turnBesideEdge cX2_turnBesideEdge 5 (some .int), Cond.methodLink RX2 107 yX1_cornerOf, Cond.instanceMethod yX1_cornerOf, Cond.selects RX1 yX1_cornerOf yX1_cornerOf, Cond.code yX1_cornerOf cX1_cornerOf 3 (some .int), Cond.fieldLink RX1 9 "TriangleSheet$Triangles" "corners" "[I", Cond.methodLink RX2 194 yX0_turnAt, Cond.instanceMethod yX0_turnAt, Cond.selects RX0 yX0_turnAt yX0_turnAt, Cond.initialized RX0, Cond.code yX0_turnAt cX0_turnAt 5 (some .int), Cond.fieldLink RX0 9 "TriangleSheet$Points" "xs" "[I", Cond.fieldLink RX0 15 "TriangleSheet$Points" "ys" "[I", Cond.methodLink RX2 49 yX0_canAdd, Cond.instanceMethod yX0_canAdd, Cond.selects RX0 yX0_canAdd yX0_canAdd, Cond.code yX0_canAdd cX0_canAdd 3 (some .boolean), Cond.fieldLink RX0 18 "TriangleSheet$Points" "came" "I", Cond.methodLink RX0 22 yX0_pointAt, Cond.instanceMethod yX0_pointAt, Cond.selects RX0 yX0_pointAt yX0_pointAt, Cond.code yX0_pointAt cX0_pointAt 4 (some .int)]
def wsX2_part_r3 : List Cond := [Cond.methodLink RX2 83 yX1_canAdd, Cond.instanceMethod yX1_canAdd, Cond.selects RX1 yX1_canAdd yX1_canAdd, Cond.code yX1_canAdd cX1_canAdd 2 (some .boolean), Cond.fieldLink RX1 22 "TriangleSheet$Triangles" "came" "I", Cond.methodLink RX2 57 yX0_add, Cond.instanceMethod yX0_add, Cond.selects RX0 yX0_add yX0_add, Cond.code yX0_add cX0_add 4 (some .int), Cond.methodLink RX0 26 yX0_put, Cond.instanceMethod yX0_put, Cond.selects RX0 yX0_put yX0_put, Cond.code yX0_put cX0_put 4 none, Cond.methodLink RX2 110 yX1_put, Cond.instanceMethod yX1_put, Cond.selects RX1 yX1_put yX1_put, Cond.code yX1_put cX1_put 5 none, Cond.methodLink RX2 87 yX1_add, Cond.instanceMethod yX1_add, Cond.selects RX1 yX1_add yX1_add, Cond.code yX1_add cX1_add 5 (some .int), Cond.methodLink RX1 25 yX1_put]
def wsX2_part : List Cond := .code yX2_part cX2_part 8 (some .int) :: ((wsX2_part_r1 ++ (wsX2_part_r2 ++ wsX2_part_r3)) ++ wsX20 ++ wsX10 ++ wsX00 ++ (vx_atS RX2 69 "java/lang/IndexOutOfBoundsException" ["java/lang/RuntimeException", "java/lang/Exception"]).filter goodWord ++ (vx_atS RX2 46 "java/lang/IllegalArgumentException" ["java/lang/RuntimeException", "java/lang/Exception"]).filter goodWord ++ (vx_atS RX2 56 "java/lang/IllegalStateException" ["java/lang/RuntimeException", "java/lang/Exception"]).filter goodWord)
def wsX2_isEdge : List Cond := .code yX2_isEdge cX2_isEdge 3 (some .boolean) :: ([.fieldLink RX2 19 "TriangleSheet" "triangles" "LTriangleSheet$Triangles;", .methodLink RX2 90 yX1_isThere, .instanceMethod yX1_isThere, .selects RX1 yX1_isThere yX1_isThere, .initialized RX1, .code yX1_isThere cX1_isThere 3 (some .boolean), .fieldLink RX1 18 "TriangleSheet$Triangles" "thereCount" "I", .fieldLink RX1 15 "TriangleSheet$Triangles" "there" "[I"] ++ wsX20 ++ wsX10)
def wsX2_turnEdge_r1 : List Cond := [Cond.fieldLink RX2 19 "TriangleSheet" "triangles" "LTriangleSheet$Triangles;", Cond.fieldLink RX2 10 "TriangleSheet" "points" "LTriangleSheet$Points;", Cond.methodLink RX2 164 yX1_neighbour, Cond.instanceMethod yX1_neighbour, Cond.selects RX1 yX1_neighbour yX1_neighbour, Cond.initialized RX1, Cond.code yX1_neighbour cX1_neighbour 6 (some .int), Cond.fieldLink RX1 18 "TriangleSheet$Triangles" "thereCount" "I", Cond.fieldLink RX1 15 "TriangleSheet$Triangles" "there" "[I", Cond.methodLink RX1 29 yX1_cornerOf, Cond.instanceMethod yX1_cornerOf, Cond.selects RX1 yX1_cornerOf yX1_cornerOf, Cond.code yX1_cornerOf cX1_cornerOf 3 (some .int), Cond.fieldLink RX1 9 "TriangleSheet$Triangles" "corners" "[I", Cond.methodLink RX1 33 yX1_hasEdge, Cond.instanceMethod yX1_hasEdge, Cond.selects RX1 yX1_hasEdge yX1_hasEdge, Cond.code yX1_hasEdge cX1_hasEdge 7 (some .boolean), Cond.methodLink RX2 107 yX1_cornerOf, Cond.methodLink RX2 275 yX1_thirdCorner, Cond.instanceMethod yX1_thirdCorner, Cond.selects RX1 yX1_thirdCorner yX1_thirdCorner, Cond.code yX1_thirdCorner cX1_thirdCorner 4 (some .int), Cond.methodLink RX2 189 yX0_turnOf]
def wsX2_turnEdge_r2 : List Cond := [Cond.instanceMethod yX0_turnOf, Cond.selects RX0 yX0_turnOf yX0_turnOf, Cond.initialized RX0, Cond.code yX0_turnOf cX0_turnOf 4 (some .int), Cond.fieldLink RX0 9 "TriangleSheet$Points" "xs" "[I", Cond.fieldLink RX0 15 "TriangleSheet$Points" "ys" "[I", Cond.methodLink RX0 30 yX0_turnAt, Cond.instanceMethod yX0_turnAt, Cond.selects RX0 yX0_turnAt yX0_turnAt, Cond.code yX0_turnAt cX0_turnAt 5 (some .int), Cond.methodLink RX2 110 yX1_put, Cond.instanceMethod yX1_put, Cond.selects RX1 yX1_put yX1_put, Cond.code yX1_put cX1_put 5 none]
def wsX2_turnEdge : List Cond := .code yX2_turnEdge cX2_turnEdge 8 (some .boolean) :: ((wsX2_turnEdge_r1 ++ wsX2_turnEdge_r2) ++ wsX20 ++ wsX10 ++ wsX00)
def wsX2_turn_r1 : List Cond := [Cond.classLink RX2 65 "java/lang/IndexOutOfBoundsException", Cond.initialized "java/lang/IndexOutOfBoundsException", Cond.methodLink RX2 113 yX2_isEdge, Cond.instanceMethod yX2_isEdge, Cond.selects RX2 yX2_isEdge yX2_isEdge, Cond.initialized RX2, Cond.code yX2_isEdge cX2_isEdge 3 (some .boolean), Cond.fieldLink RX2 19 "TriangleSheet" "triangles" "LTriangleSheet$Triangles;", Cond.methodLink RX2 90 yX1_isThere, Cond.instanceMethod yX1_isThere, Cond.selects RX1 yX1_isThere yX1_isThere, Cond.initialized RX1, Cond.code yX1_isThere cX1_isThere 3 (some .boolean), Cond.fieldLink RX1 18 "TriangleSheet$Triangles" "thereCount" "I", Cond.fieldLink RX1 15 "TriangleSheet$Triangles" "there" "[I", Cond.methodLink RX2 118 yX2_turnEdge, Cond.instanceMethod yX2_turnEdge, Cond.selects RX2 yX2_turnEdge yX2_turnEdge, Cond.code yX2_turnEdge cX2_turnEdge 8 (some .boolean), Cond.fieldLink RX2 10 "TriangleSheet" "points" "LTriangleSheet$Points;", Cond.methodLink RX2 164 yX1_neighbour, Cond.instanceMethod yX1_neighbour, Cond.selects RX1 yX1_neighbour yX1_neighbour, Cond.code yX1_neighbour cX1_neighbour 6 (some .int)]
def wsX2_turn_r2 : List Cond := [Cond.methodLink RX1 29 yX1_cornerOf, Cond.instanceMethod yX1_cornerOf, Cond.selects RX1 yX1_cornerOf yX1_cornerOf, Cond.code yX1_cornerOf cX1_cornerOf 3 (some .int), Cond.fieldLink RX1 9 "TriangleSheet$Triangles" "corners" "[I", Cond.methodLink RX1 33 yX1_hasEdge, Cond.instanceMethod yX1_hasEdge, Cond.selects RX1 yX1_hasEdge yX1_hasEdge, Cond.code yX1_hasEdge cX1_hasEdge 7 (some .boolean), Cond.methodLink RX2 107 yX1_cornerOf, Cond.methodLink RX2 275 yX1_thirdCorner, Cond.instanceMethod yX1_thirdCorner, Cond.selects RX1 yX1_thirdCorner yX1_thirdCorner, Cond.code yX1_thirdCorner cX1_thirdCorner 4 (some .int), Cond.methodLink RX2 189 yX0_turnOf, Cond.instanceMethod yX0_turnOf, Cond.selects RX0 yX0_turnOf yX0_turnOf, Cond.initialized RX0, Cond.code yX0_turnOf cX0_turnOf 4 (some .int), Cond.fieldLink RX0 9 "TriangleSheet$Points" "xs" "[I", Cond.fieldLink RX0 15 "TriangleSheet$Points" "ys" "[I", Cond.methodLink RX0 30 yX0_turnAt, Cond.instanceMethod yX0_turnAt, Cond.selects RX0 yX0_turnAt yX0_turnAt]
def wsX2_turn_r3 : List Cond := [Cond.code yX0_turnAt cX0_turnAt 5 (some .int), Cond.methodLink RX2 110 yX1_put, Cond.instanceMethod yX1_put, Cond.selects RX1 yX1_put yX1_put, Cond.code yX1_put cX1_put 5 none]
def wsX2_turn : List Cond := .code yX2_turn cX2_turn 3 (some .boolean) :: ((wsX2_turn_r1 ++ (wsX2_turn_r2 ++ wsX2_turn_r3)) ++ wsX20 ++ wsX10 ++ wsX00 ++ (vx_atS RX2 69 "java/lang/IndexOutOfBoundsException" ["java/lang/RuntimeException", "java/lang/Exception"]).filter goodWord)
def wsX2_isGoodEdge_r1 : List Cond := [Cond.fieldLink RX2 19 "TriangleSheet" "triangles" "LTriangleSheet$Triangles;", Cond.fieldLink RX2 10 "TriangleSheet" "points" "LTriangleSheet$Points;", Cond.methodLink RX2 164 yX1_neighbour, Cond.instanceMethod yX1_neighbour, Cond.selects RX1 yX1_neighbour yX1_neighbour, Cond.initialized RX1, Cond.code yX1_neighbour cX1_neighbour 6 (some .int), Cond.fieldLink RX1 18 "TriangleSheet$Triangles" "thereCount" "I", Cond.fieldLink RX1 15 "TriangleSheet$Triangles" "there" "[I", Cond.methodLink RX1 29 yX1_cornerOf, Cond.instanceMethod yX1_cornerOf, Cond.selects RX1 yX1_cornerOf yX1_cornerOf, Cond.code yX1_cornerOf cX1_cornerOf 3 (some .int), Cond.fieldLink RX1 9 "TriangleSheet$Triangles" "corners" "[I", Cond.methodLink RX1 33 yX1_hasEdge, Cond.instanceMethod yX1_hasEdge, Cond.selects RX1 yX1_hasEdge yX1_hasEdge, Cond.code yX1_hasEdge cX1_hasEdge 7 (some .boolean), Cond.methodLink RX2 107 yX1_cornerOf, Cond.methodLink RX2 275 yX1_thirdCorner, Cond.instanceMethod yX1_thirdCorner, Cond.selects RX1 yX1_thirdCorner yX1_thirdCorner, Cond.code yX1_thirdCorner cX1_thirdCorner 4 (some .int), Cond.methodLink RX2 278 yX0_circleSide]
def wsX2_isGoodEdge_r2 : List Cond := [Cond.instanceMethod yX0_circleSide, Cond.selects RX0 yX0_circleSide yX0_circleSide, Cond.initialized RX0, Cond.code yX0_circleSide cX0_circleSide 17 (some .long), Cond.fieldLink RX0 9 "TriangleSheet$Points" "xs" "[I", Cond.fieldLink RX0 15 "TriangleSheet$Points" "ys" "[I"]
def wsX2_isGoodEdge : List Cond := .code yX2_isGoodEdge cX2_isGoodEdge 7 (some .boolean) :: ((wsX2_isGoodEdge_r1 ++ wsX2_isGoodEdge_r2) ++ wsX20 ++ wsX10 ++ wsX00)
def wsX2_turnFirstBadEdge_r1 : List Cond := [Cond.fieldLink RX2 19 "TriangleSheet" "triangles" "LTriangleSheet$Triangles;", Cond.methodLink RX2 127 yX1_thereCount, Cond.instanceMethod yX1_thereCount, Cond.selects RX1 yX1_thereCount yX1_thereCount, Cond.initialized RX1, Cond.code yX1_thereCount cX1_thereCount 1 (some .int), Cond.fieldLink RX1 18 "TriangleSheet$Triangles" "thereCount" "I", Cond.methodLink RX2 131 yX1_numberAt, Cond.instanceMethod yX1_numberAt, Cond.selects RX1 yX1_numberAt yX1_numberAt, Cond.code yX1_numberAt cX1_numberAt 2 (some .int), Cond.fieldLink RX1 15 "TriangleSheet$Triangles" "there" "[I", Cond.methodLink RX2 167 yX2_isGoodEdge, Cond.instanceMethod yX2_isGoodEdge, Cond.selects RX2 yX2_isGoodEdge yX2_isGoodEdge, Cond.initialized RX2, Cond.code yX2_isGoodEdge cX2_isGoodEdge 7 (some .boolean), Cond.fieldLink RX2 10 "TriangleSheet" "points" "LTriangleSheet$Points;", Cond.methodLink RX2 164 yX1_neighbour, Cond.instanceMethod yX1_neighbour, Cond.selects RX1 yX1_neighbour yX1_neighbour, Cond.code yX1_neighbour cX1_neighbour 6 (some .int), Cond.methodLink RX1 29 yX1_cornerOf, Cond.instanceMethod yX1_cornerOf]
def wsX2_turnFirstBadEdge_r2 : List Cond := [Cond.selects RX1 yX1_cornerOf yX1_cornerOf, Cond.code yX1_cornerOf cX1_cornerOf 3 (some .int), Cond.fieldLink RX1 9 "TriangleSheet$Triangles" "corners" "[I", Cond.methodLink RX1 33 yX1_hasEdge, Cond.instanceMethod yX1_hasEdge, Cond.selects RX1 yX1_hasEdge yX1_hasEdge, Cond.code yX1_hasEdge cX1_hasEdge 7 (some .boolean), Cond.methodLink RX2 107 yX1_cornerOf, Cond.methodLink RX2 275 yX1_thirdCorner, Cond.instanceMethod yX1_thirdCorner, Cond.selects RX1 yX1_thirdCorner yX1_thirdCorner, Cond.code yX1_thirdCorner cX1_thirdCorner 4 (some .int), Cond.methodLink RX2 278 yX0_circleSide, Cond.instanceMethod yX0_circleSide, Cond.selects RX0 yX0_circleSide yX0_circleSide, Cond.initialized RX0, Cond.code yX0_circleSide cX0_circleSide 17 (some .long), Cond.fieldLink RX0 9 "TriangleSheet$Points" "xs" "[I", Cond.fieldLink RX0 15 "TriangleSheet$Points" "ys" "[I", Cond.methodLink RX2 118 yX2_turnEdge, Cond.instanceMethod yX2_turnEdge, Cond.selects RX2 yX2_turnEdge yX2_turnEdge, Cond.code yX2_turnEdge cX2_turnEdge 8 (some .boolean), Cond.methodLink RX2 189 yX0_turnOf]
def wsX2_turnFirstBadEdge_r3 : List Cond := [Cond.instanceMethod yX0_turnOf, Cond.selects RX0 yX0_turnOf yX0_turnOf, Cond.code yX0_turnOf cX0_turnOf 4 (some .int), Cond.methodLink RX0 30 yX0_turnAt, Cond.instanceMethod yX0_turnAt, Cond.selects RX0 yX0_turnAt yX0_turnAt, Cond.code yX0_turnAt cX0_turnAt 5 (some .int), Cond.methodLink RX2 110 yX1_put, Cond.instanceMethod yX1_put, Cond.selects RX1 yX1_put yX1_put, Cond.code yX1_put cX1_put 5 none]
def wsX2_turnFirstBadEdge : List Cond := .code yX2_turnFirstBadEdge cX2_turnFirstBadEdge 4 (some .boolean) :: ((wsX2_turnFirstBadEdge_r1 ++ (wsX2_turnFirstBadEdge_r2 ++ wsX2_turnFirstBadEdge_r3)) ++ wsX20 ++ wsX10 ++ wsX00)
def wsX2_improve_r1 : List Cond := [Cond.classLink RX2 42 "java/lang/IllegalArgumentException", Cond.initialized "java/lang/IllegalArgumentException", Cond.methodLink RX2 123 yX2_turnFirstBadEdge, Cond.instanceMethod yX2_turnFirstBadEdge, Cond.selects RX2 yX2_turnFirstBadEdge yX2_turnFirstBadEdge, Cond.initialized RX2, Cond.code yX2_turnFirstBadEdge cX2_turnFirstBadEdge 4 (some .boolean), Cond.fieldLink RX2 19 "TriangleSheet" "triangles" "LTriangleSheet$Triangles;", Cond.methodLink RX2 127 yX1_thereCount, Cond.instanceMethod yX1_thereCount, Cond.selects RX1 yX1_thereCount yX1_thereCount, Cond.initialized RX1, Cond.code yX1_thereCount cX1_thereCount 1 (some .int), Cond.fieldLink RX1 18 "TriangleSheet$Triangles" "thereCount" "I", Cond.methodLink RX2 131 yX1_numberAt, Cond.instanceMethod yX1_numberAt, Cond.selects RX1 yX1_numberAt yX1_numberAt, Cond.code yX1_numberAt cX1_numberAt 2 (some .int), Cond.fieldLink RX1 15 "TriangleSheet$Triangles" "there" "[I", Cond.methodLink RX2 167 yX2_isGoodEdge, Cond.instanceMethod yX2_isGoodEdge, Cond.selects RX2 yX2_isGoodEdge yX2_isGoodEdge, Cond.code yX2_isGoodEdge cX2_isGoodEdge 7 (some .boolean), Cond.fieldLink RX2 10 "TriangleSheet" "points" "LTriangleSheet$Points;"]
def wsX2_improve_r2 : List Cond := [Cond.methodLink RX2 164 yX1_neighbour, Cond.instanceMethod yX1_neighbour, Cond.selects RX1 yX1_neighbour yX1_neighbour, Cond.code yX1_neighbour cX1_neighbour 6 (some .int), Cond.methodLink RX1 29 yX1_cornerOf, Cond.instanceMethod yX1_cornerOf, Cond.selects RX1 yX1_cornerOf yX1_cornerOf, Cond.code yX1_cornerOf cX1_cornerOf 3 (some .int), Cond.fieldLink RX1 9 "TriangleSheet$Triangles" "corners" "[I", Cond.methodLink RX1 33 yX1_hasEdge, Cond.instanceMethod yX1_hasEdge, Cond.selects RX1 yX1_hasEdge yX1_hasEdge, Cond.code yX1_hasEdge cX1_hasEdge 7 (some .boolean), Cond.methodLink RX2 107 yX1_cornerOf, Cond.methodLink RX2 275 yX1_thirdCorner, Cond.instanceMethod yX1_thirdCorner, Cond.selects RX1 yX1_thirdCorner yX1_thirdCorner, Cond.code yX1_thirdCorner cX1_thirdCorner 4 (some .int), Cond.methodLink RX2 278 yX0_circleSide, Cond.instanceMethod yX0_circleSide, Cond.selects RX0 yX0_circleSide yX0_circleSide, Cond.initialized RX0, Cond.code yX0_circleSide cX0_circleSide 17 (some .long), Cond.fieldLink RX0 9 "TriangleSheet$Points" "xs" "[I"]
def wsX2_improve_r3 : List Cond := [Cond.fieldLink RX0 15 "TriangleSheet$Points" "ys" "[I", Cond.methodLink RX2 118 yX2_turnEdge, Cond.instanceMethod yX2_turnEdge, Cond.selects RX2 yX2_turnEdge yX2_turnEdge, Cond.code yX2_turnEdge cX2_turnEdge 8 (some .boolean), Cond.methodLink RX2 189 yX0_turnOf, Cond.instanceMethod yX0_turnOf, Cond.selects RX0 yX0_turnOf yX0_turnOf, Cond.code yX0_turnOf cX0_turnOf 4 (some .int), Cond.methodLink RX0 30 yX0_turnAt, Cond.instanceMethod yX0_turnAt, Cond.selects RX0 yX0_turnAt yX0_turnAt, Cond.code yX0_turnAt cX0_turnAt 5 (some .int), Cond.methodLink RX2 110 yX1_put, Cond.instanceMethod yX1_put, Cond.selects RX1 yX1_put yX1_put, Cond.code yX1_put cX1_put 5 none]
def wsX2_improve : List Cond := .code yX2_improve cX2_improve 3 (some .int) :: ((wsX2_improve_r1 ++ (wsX2_improve_r2 ++ wsX2_improve_r3)) ++ wsX20 ++ wsX10 ++ wsX00 ++ (vx_atS RX2 46 "java/lang/IllegalArgumentException" ["java/lang/RuntimeException", "java/lang/Exception"]).filter goodWord)
def wsX2_turnOf : List Cond := .code yX2_turnOf cX2_turnOf 2 (some .int) :: ([.fieldLink RX2 10 "TriangleSheet" "points" "LTriangleSheet$Points;", .fieldLink RX2 19 "TriangleSheet" "triangles" "LTriangleSheet$Triangles;", .methodLink RX2 107 yX1_cornerOf, .instanceMethod yX1_cornerOf, .selects RX1 yX1_cornerOf yX1_cornerOf, .initialized RX1, .code yX1_cornerOf cX1_cornerOf 3 (some .int), .fieldLink RX1 9 "TriangleSheet$Triangles" "corners" "[I", .methodLink RX2 189 yX0_turnOf, .instanceMethod yX0_turnOf, .selects RX0 yX0_turnOf yX0_turnOf, .initialized RX0, .code yX0_turnOf cX0_turnOf 4 (some .int), .fieldLink RX0 9 "TriangleSheet$Points" "xs" "[I", .fieldLink RX0 15 "TriangleSheet$Points" "ys" "[I", .methodLink RX0 30 yX0_turnAt, .instanceMethod yX0_turnAt, .selects RX0 yX0_turnAt yX0_turnAt, .code yX0_turnAt cX0_turnAt 5 (some .int)] ++ wsX20 ++ wsX10 ++ wsX00)
def wsX2_isRight : List Cond := .code yX2_isRight cX2_isRight 2 (some .boolean) :: ([.methodLink RX2 192 yX2_turnOf, .instanceMethod yX2_turnOf, .selects RX2 yX2_turnOf yX2_turnOf, .initialized RX2, .code yX2_turnOf cX2_turnOf 2 (some .int), .fieldLink RX2 10 "TriangleSheet" "points" "LTriangleSheet$Points;", .fieldLink RX2 19 "TriangleSheet" "triangles" "LTriangleSheet$Triangles;", .methodLink RX2 107 yX1_cornerOf, .instanceMethod yX1_cornerOf, .selects RX1 yX1_cornerOf yX1_cornerOf, .initialized RX1, .code yX1_cornerOf cX1_cornerOf 3 (some .int), .fieldLink RX1 9 "TriangleSheet$Triangles" "corners" "[I", .methodLink RX2 189 yX0_turnOf, .instanceMethod yX0_turnOf, .selects RX0 yX0_turnOf yX0_turnOf, .initialized RX0, .code yX0_turnOf cX0_turnOf 4 (some .int), .fieldLink RX0 9 "TriangleSheet$Points" "xs" "[I", .fieldLink RX0 15 "TriangleSheet$Points" "ys" "[I", .methodLink RX0 30 yX0_turnAt, .instanceMethod yX0_turnAt, .selects RX0 yX0_turnAt yX0_turnAt, .code yX0_turnAt cX0_turnAt 5 (some .int)] ++ wsX20 ++ wsX10 ++ wsX00)
def wsX2_rememberCulprits : List Cond := .code yX2_rememberCulprits cX2_rememberCulprits 3 none :: ([.fieldLink RX2 31 "TriangleSheet" "faulty" "I", .fieldLink RX2 35 "TriangleSheet" "faultyWith" "I"] ++ wsX20)
def wsX2_cornerX : List Cond := .code yX2_cornerX cX2_cornerX 3 (some .int) :: ([.fieldLink RX2 10 "TriangleSheet" "points" "LTriangleSheet$Points;", .fieldLink RX2 19 "TriangleSheet" "triangles" "LTriangleSheet$Triangles;", .methodLink RX2 107 yX1_cornerOf, .instanceMethod yX1_cornerOf, .selects RX1 yX1_cornerOf yX1_cornerOf, .initialized RX1, .code yX1_cornerOf cX1_cornerOf 3 (some .int), .fieldLink RX1 9 "TriangleSheet$Triangles" "corners" "[I", .methodLink RX2 213 yX0_x, .instanceMethod yX0_x, .selects RX0 yX0_x yX0_x, .initialized RX0, .code yX0_x cX0_x 2 (some .int), .fieldLink RX0 9 "TriangleSheet$Points" "xs" "[I"] ++ wsX20 ++ wsX10 ++ wsX00)
def wsX2_rightmost : List Cond := .code yX2_rightmost cX2_rightmost 2 (some .int) :: ([.methodLink RX2 239 Lib.Math.max.name, .static Lib.Math.max.name, .initialized "java/lang/Math", .code Lib.Math.max.name Lib.Math.max.code 2 (some .int), .methodLink RX2 244 yX2_cornerX, .instanceMethod yX2_cornerX, .selects RX2 yX2_cornerX yX2_cornerX, .initialized RX2, .code yX2_cornerX cX2_cornerX 3 (some .int), .fieldLink RX2 10 "TriangleSheet" "points" "LTriangleSheet$Points;", .fieldLink RX2 19 "TriangleSheet" "triangles" "LTriangleSheet$Triangles;", .methodLink RX2 107 yX1_cornerOf, .instanceMethod yX1_cornerOf, .selects RX1 yX1_cornerOf yX1_cornerOf, .initialized RX1, .code yX1_cornerOf cX1_cornerOf 3 (some .int), .fieldLink RX1 9 "TriangleSheet$Triangles" "corners" "[I", .methodLink RX2 213 yX0_x, .instanceMethod yX0_x, .selects RX0 yX0_x yX0_x, .initialized RX0, .code yX0_x cX0_x 2 (some .int), .fieldLink RX0 9 "TriangleSheet$Points" "xs" "[I"] ++ wsX20 ++ wsX10 ++ wsX00)
def wsX2_leftmost : List Cond := .code yX2_leftmost cX2_leftmost 2 (some .int) :: ([.methodLink RX2 247 Lib.Math.min.name, .static Lib.Math.min.name, .initialized "java/lang/Math", .code Lib.Math.min.name Lib.Math.min.code 2 (some .int), .methodLink RX2 244 yX2_cornerX, .instanceMethod yX2_cornerX, .selects RX2 yX2_cornerX yX2_cornerX, .initialized RX2, .code yX2_cornerX cX2_cornerX 3 (some .int), .fieldLink RX2 10 "TriangleSheet" "points" "LTriangleSheet$Points;", .fieldLink RX2 19 "TriangleSheet" "triangles" "LTriangleSheet$Triangles;", .methodLink RX2 107 yX1_cornerOf, .instanceMethod yX1_cornerOf, .selects RX1 yX1_cornerOf yX1_cornerOf, .initialized RX1, .code yX1_cornerOf cX1_cornerOf 3 (some .int), .fieldLink RX1 9 "TriangleSheet$Triangles" "corners" "[I", .methodLink RX2 213 yX0_x, .instanceMethod yX0_x, .selects RX0 yX0_x yX0_x, .initialized RX0, .code yX0_x cX0_x 2 (some .int), .fieldLink RX0 9 "TriangleSheet$Points" "xs" "[I"] ++ wsX20 ++ wsX10 ++ wsX00)
def wsX2_cornerY : List Cond := .code yX2_cornerY cX2_cornerY 3 (some .int) :: ([.fieldLink RX2 10 "TriangleSheet" "points" "LTriangleSheet$Points;", .fieldLink RX2 19 "TriangleSheet" "triangles" "LTriangleSheet$Triangles;", .methodLink RX2 107 yX1_cornerOf, .instanceMethod yX1_cornerOf, .selects RX1 yX1_cornerOf yX1_cornerOf, .initialized RX1, .code yX1_cornerOf cX1_cornerOf 3 (some .int), .fieldLink RX1 9 "TriangleSheet$Triangles" "corners" "[I", .methodLink RX2 210 yX0_y, .instanceMethod yX0_y, .selects RX0 yX0_y yX0_y, .initialized RX0, .code yX0_y cX0_y 2 (some .int), .fieldLink RX0 15 "TriangleSheet$Points" "ys" "[I"] ++ wsX20 ++ wsX10 ++ wsX00)
def wsX2_highest : List Cond := .code yX2_highest cX2_highest 2 (some .int) :: ([.methodLink RX2 239 Lib.Math.max.name, .static Lib.Math.max.name, .initialized "java/lang/Math", .code Lib.Math.max.name Lib.Math.max.code 2 (some .int), .methodLink RX2 250 yX2_cornerY, .instanceMethod yX2_cornerY, .selects RX2 yX2_cornerY yX2_cornerY, .initialized RX2, .code yX2_cornerY cX2_cornerY 3 (some .int), .fieldLink RX2 10 "TriangleSheet" "points" "LTriangleSheet$Points;", .fieldLink RX2 19 "TriangleSheet" "triangles" "LTriangleSheet$Triangles;", .methodLink RX2 107 yX1_cornerOf, .instanceMethod yX1_cornerOf, .selects RX1 yX1_cornerOf yX1_cornerOf, .initialized RX1, .code yX1_cornerOf cX1_cornerOf 3 (some .int), .fieldLink RX1 9 "TriangleSheet$Triangles" "corners" "[I", .methodLink RX2 210 yX0_y, .instanceMethod yX0_y, .selects RX0 yX0_y yX0_y, .initialized RX0, .code yX0_y cX0_y 2 (some .int), .fieldLink RX0 15 "TriangleSheet$Points" "ys" "[I"] ++ wsX20 ++ wsX10 ++ wsX00)
def wsX2_lowest : List Cond := .code yX2_lowest cX2_lowest 2 (some .int) :: ([.methodLink RX2 247 Lib.Math.min.name, .static Lib.Math.min.name, .initialized "java/lang/Math", .code Lib.Math.min.name Lib.Math.min.code 2 (some .int), .methodLink RX2 250 yX2_cornerY, .instanceMethod yX2_cornerY, .selects RX2 yX2_cornerY yX2_cornerY, .initialized RX2, .code yX2_cornerY cX2_cornerY 3 (some .int), .fieldLink RX2 10 "TriangleSheet" "points" "LTriangleSheet$Points;", .fieldLink RX2 19 "TriangleSheet" "triangles" "LTriangleSheet$Triangles;", .methodLink RX2 107 yX1_cornerOf, .instanceMethod yX1_cornerOf, .selects RX1 yX1_cornerOf yX1_cornerOf, .initialized RX1, .code yX1_cornerOf cX1_cornerOf 3 (some .int), .fieldLink RX1 9 "TriangleSheet$Triangles" "corners" "[I", .methodLink RX2 210 yX0_y, .instanceMethod yX0_y, .selects RX0 yX0_y yX0_y, .initialized RX0, .code yX0_y cX0_y 2 (some .int), .fieldLink RX0 15 "TriangleSheet$Points" "ys" "[I"] ++ wsX20 ++ wsX10 ++ wsX00)
def wsX2_areFarApart_r1 : List Cond := [Cond.methodLink RX2 233 yX2_rightmost, Cond.instanceMethod yX2_rightmost, Cond.selects RX2 yX2_rightmost yX2_rightmost, Cond.initialized RX2, Cond.code yX2_rightmost cX2_rightmost 2 (some .int), Cond.methodLink RX2 239 Lib.Math.max.name, Cond.static Lib.Math.max.name, Cond.initialized "java/lang/Math", Cond.code Lib.Math.max.name Lib.Math.max.code 2 (some .int), Cond.methodLink RX2 244 yX2_cornerX, Cond.instanceMethod yX2_cornerX, Cond.selects RX2 yX2_cornerX yX2_cornerX, Cond.code yX2_cornerX cX2_cornerX 3 (some .int), Cond.fieldLink RX2 10 "TriangleSheet" "points" "LTriangleSheet$Points;", Cond.fieldLink RX2 19 "TriangleSheet" "triangles" "LTriangleSheet$Triangles;", Cond.methodLink RX2 107 yX1_cornerOf, Cond.instanceMethod yX1_cornerOf, Cond.selects RX1 yX1_cornerOf yX1_cornerOf, Cond.initialized RX1, Cond.code yX1_cornerOf cX1_cornerOf 3 (some .int), Cond.fieldLink RX1 9 "TriangleSheet$Triangles" "corners" "[I", Cond.methodLink RX2 213 yX0_x, Cond.instanceMethod yX0_x, Cond.selects RX0 yX0_x yX0_x]
def wsX2_areFarApart_r2 : List Cond := [Cond.initialized RX0, Cond.code yX0_x cX0_x 2 (some .int), Cond.fieldLink RX0 9 "TriangleSheet$Points" "xs" "[I", Cond.methodLink RX2 236 yX2_leftmost, Cond.instanceMethod yX2_leftmost, Cond.selects RX2 yX2_leftmost yX2_leftmost, Cond.code yX2_leftmost cX2_leftmost 2 (some .int), Cond.methodLink RX2 247 Lib.Math.min.name, Cond.static Lib.Math.min.name, Cond.code Lib.Math.min.name Lib.Math.min.code 2 (some .int), Cond.methodLink RX2 230 yX2_highest, Cond.instanceMethod yX2_highest, Cond.selects RX2 yX2_highest yX2_highest, Cond.code yX2_highest cX2_highest 2 (some .int), Cond.methodLink RX2 250 yX2_cornerY, Cond.instanceMethod yX2_cornerY, Cond.selects RX2 yX2_cornerY yX2_cornerY, Cond.code yX2_cornerY cX2_cornerY 3 (some .int), Cond.methodLink RX2 210 yX0_y, Cond.instanceMethod yX0_y, Cond.selects RX0 yX0_y yX0_y, Cond.code yX0_y cX0_y 2 (some .int), Cond.fieldLink RX0 15 "TriangleSheet$Points" "ys" "[I", Cond.methodLink RX2 227 yX2_lowest]
def wsX2_areFarApart_r3 : List Cond := [Cond.instanceMethod yX2_lowest, Cond.selects RX2 yX2_lowest yX2_lowest, Cond.code yX2_lowest cX2_lowest 2 (some .int)]
def wsX2_areFarApart : List Cond := .code yX2_areFarApart cX2_areFarApart 3 (some .boolean) :: ((wsX2_areFarApart_r1 ++ (wsX2_areFarApart_r2 ++ wsX2_areFarApart_r3)) ++ wsX20 ++ wsX10 ++ wsX00)
def wsX2_haveSameCorners : List Cond := .code yX2_haveSameCorners cX2_haveSameCorners 4 (some .boolean) :: ([.fieldLink RX2 19 "TriangleSheet" "triangles" "LTriangleSheet$Triangles;", .methodLink RX2 107 yX1_cornerOf, .instanceMethod yX1_cornerOf, .selects RX1 yX1_cornerOf yX1_cornerOf, .initialized RX1, .code yX1_cornerOf cX1_cornerOf 3 (some .int), .fieldLink RX1 9 "TriangleSheet$Triangles" "corners" "[I", .methodLink RX2 268 yX1_hasCorner, .instanceMethod yX1_hasCorner, .selects RX1 yX1_hasCorner yX1_hasCorner, .code yX1_hasCorner cX1_hasCorner 3 (some .boolean)] ++ wsX20 ++ wsX10)
def wsX2_hasPlace : List Cond := .code yX2_hasPlace cX2_hasPlace 5 (some .boolean) :: ([.methodLink RX2 198 yX2_turnBesideEdge, .instanceMethod yX2_turnBesideEdge, .selects RX2 yX2_turnBesideEdge yX2_turnBesideEdge, .initialized RX2, .code yX2_turnBesideEdge cX2_turnBesideEdge 5 (some .int), .fieldLink RX2 10 "TriangleSheet" "points" "LTriangleSheet$Points;", .fieldLink RX2 19 "TriangleSheet" "triangles" "LTriangleSheet$Triangles;", .methodLink RX2 107 yX1_cornerOf, .instanceMethod yX1_cornerOf, .selects RX1 yX1_cornerOf yX1_cornerOf, .initialized RX1, .code yX1_cornerOf cX1_cornerOf 3 (some .int), .fieldLink RX1 9 "TriangleSheet$Triangles" "corners" "[I", .methodLink RX2 194 yX0_turnAt, .instanceMethod yX0_turnAt, .selects RX0 yX0_turnAt yX0_turnAt, .initialized RX0, .code yX0_turnAt cX0_turnAt 5 (some .int), .fieldLink RX0 9 "TriangleSheet$Points" "xs" "[I", .fieldLink RX0 15 "TriangleSheet$Points" "ys" "[I"] ++ wsX20 ++ wsX10 ++ wsX00)
def wsX2_reachesInto_r1 : List Cond := [Cond.fieldLink RX2 19 "TriangleSheet" "triangles" "LTriangleSheet$Triangles;", Cond.fieldLink RX2 10 "TriangleSheet" "points" "LTriangleSheet$Points;", Cond.methodLink RX2 107 yX1_cornerOf, Cond.instanceMethod yX1_cornerOf, Cond.selects RX1 yX1_cornerOf yX1_cornerOf, Cond.initialized RX1, Cond.code yX1_cornerOf cX1_cornerOf 3 (some .int), Cond.fieldLink RX1 9 "TriangleSheet$Triangles" "corners" "[I", Cond.methodLink RX2 268 yX1_hasCorner, Cond.instanceMethod yX1_hasCorner, Cond.selects RX1 yX1_hasCorner yX1_hasCorner, Cond.code yX1_hasCorner cX1_hasCorner 3 (some .boolean), Cond.methodLink RX2 213 yX0_x, Cond.instanceMethod yX0_x, Cond.selects RX0 yX0_x yX0_x, Cond.initialized RX0, Cond.code yX0_x cX0_x 2 (some .int), Cond.fieldLink RX0 9 "TriangleSheet$Points" "xs" "[I", Cond.methodLink RX2 210 yX0_y, Cond.instanceMethod yX0_y, Cond.selects RX0 yX0_y yX0_y, Cond.code yX0_y cX0_y 2 (some .int), Cond.fieldLink RX0 15 "TriangleSheet$Points" "ys" "[I", Cond.methodLink RX2 161 yX2_hasPlace]
def wsX2_reachesInto_r2 : List Cond := [Cond.instanceMethod yX2_hasPlace, Cond.selects RX2 yX2_hasPlace yX2_hasPlace, Cond.initialized RX2, Cond.code yX2_hasPlace cX2_hasPlace 5 (some .boolean), Cond.methodLink RX2 198 yX2_turnBesideEdge, Cond.instanceMethod yX2_turnBesideEdge, Cond.selects RX2 yX2_turnBesideEdge yX2_turnBesideEdge, Cond.code yX2_turnBesideEdge cX2_turnBesideEdge 5 (some .int), Cond.methodLink RX2 194 yX0_turnAt, Cond.instanceMethod yX0_turnAt, Cond.selects RX0 yX0_turnAt yX0_turnAt, Cond.code yX0_turnAt cX0_turnAt 5 (some .int)]
def wsX2_reachesInto : List Cond := .code yX2_reachesInto cX2_reachesInto 5 (some .boolean) :: ((wsX2_reachesInto_r1 ++ wsX2_reachesInto_r2) ++ wsX20 ++ wsX10 ++ wsX00)
def wsX2_crossesAnEdgeOf_r1 : List Cond := [Cond.fieldLink RX2 10 "TriangleSheet" "points" "LTriangleSheet$Points;", Cond.fieldLink RX2 19 "TriangleSheet" "triangles" "LTriangleSheet$Triangles;", Cond.methodLink RX2 107 yX1_cornerOf, Cond.instanceMethod yX1_cornerOf, Cond.selects RX1 yX1_cornerOf yX1_cornerOf, Cond.initialized RX1, Cond.code yX1_cornerOf cX1_cornerOf 3 (some .int), Cond.fieldLink RX1 9 "TriangleSheet$Triangles" "corners" "[I", Cond.methodLink RX2 271 yX0_isCrossing, Cond.instanceMethod yX0_isCrossing, Cond.selects RX0 yX0_isCrossing yX0_isCrossing, Cond.initialized RX0, Cond.code yX0_isCrossing cX0_isCrossing 5 (some .boolean), Cond.methodLink RX0 34 yX0_turnOf, Cond.instanceMethod yX0_turnOf, Cond.selects RX0 yX0_turnOf yX0_turnOf, Cond.code yX0_turnOf cX0_turnOf 4 (some .int), Cond.fieldLink RX0 9 "TriangleSheet$Points" "xs" "[I", Cond.fieldLink RX0 15 "TriangleSheet$Points" "ys" "[I", Cond.methodLink RX0 30 yX0_turnAt, Cond.instanceMethod yX0_turnAt, Cond.selects RX0 yX0_turnAt yX0_turnAt, Cond.code yX0_turnAt cX0_turnAt 5 (some .int), Cond.methodLink RX0 38 yX0_areOpposite]
def wsX2_crossesAnEdgeOf_r2 : List Cond := [Cond.static yX0_areOpposite, Cond.code yX0_areOpposite cX0_areOpposite 2 (some .boolean)]
def wsX2_crossesAnEdgeOf : List Cond := .code yX2_crossesAnEdgeOf cX2_crossesAnEdgeOf 5 (some .boolean) :: ((wsX2_crossesAnEdgeOf_r1 ++ wsX2_crossesAnEdgeOf_r2) ++ wsX20 ++ wsX10 ++ wsX00)
def wsX2_areTidy_r1 : List Cond := [Cond.methodLink RX2 256 yX2_areFarApart, Cond.instanceMethod yX2_areFarApart, Cond.selects RX2 yX2_areFarApart yX2_areFarApart, Cond.initialized RX2, Cond.code yX2_areFarApart cX2_areFarApart 3 (some .boolean), Cond.methodLink RX2 233 yX2_rightmost, Cond.instanceMethod yX2_rightmost, Cond.selects RX2 yX2_rightmost yX2_rightmost, Cond.code yX2_rightmost cX2_rightmost 2 (some .int), Cond.methodLink RX2 239 Lib.Math.max.name, Cond.static Lib.Math.max.name, Cond.initialized "java/lang/Math", Cond.code Lib.Math.max.name Lib.Math.max.code 2 (some .int), Cond.methodLink RX2 244 yX2_cornerX, Cond.instanceMethod yX2_cornerX, Cond.selects RX2 yX2_cornerX yX2_cornerX, Cond.code yX2_cornerX cX2_cornerX 3 (some .int), Cond.fieldLink RX2 10 "TriangleSheet" "points" "LTriangleSheet$Points;", Cond.fieldLink RX2 19 "TriangleSheet" "triangles" "LTriangleSheet$Triangles;", Cond.methodLink RX2 107 yX1_cornerOf, Cond.instanceMethod yX1_cornerOf, Cond.selects RX1 yX1_cornerOf yX1_cornerOf, Cond.initialized RX1, Cond.code yX1_cornerOf cX1_cornerOf 3 (some .int)]
def wsX2_areTidy_r2 : List Cond := [Cond.fieldLink RX1 9 "TriangleSheet$Triangles" "corners" "[I", Cond.methodLink RX2 213 yX0_x, Cond.instanceMethod yX0_x, Cond.selects RX0 yX0_x yX0_x, Cond.initialized RX0, Cond.code yX0_x cX0_x 2 (some .int), Cond.fieldLink RX0 9 "TriangleSheet$Points" "xs" "[I", Cond.methodLink RX2 236 yX2_leftmost, Cond.instanceMethod yX2_leftmost, Cond.selects RX2 yX2_leftmost yX2_leftmost, Cond.code yX2_leftmost cX2_leftmost 2 (some .int), Cond.methodLink RX2 247 Lib.Math.min.name, Cond.static Lib.Math.min.name, Cond.code Lib.Math.min.name Lib.Math.min.code 2 (some .int), Cond.methodLink RX2 230 yX2_highest, Cond.instanceMethod yX2_highest, Cond.selects RX2 yX2_highest yX2_highest, Cond.code yX2_highest cX2_highest 2 (some .int), Cond.methodLink RX2 250 yX2_cornerY, Cond.instanceMethod yX2_cornerY, Cond.selects RX2 yX2_cornerY yX2_cornerY, Cond.code yX2_cornerY cX2_cornerY 3 (some .int), Cond.methodLink RX2 210 yX0_y, Cond.instanceMethod yX0_y]
def wsX2_areTidy_r3 : List Cond := [Cond.selects RX0 yX0_y yX0_y, Cond.code yX0_y cX0_y 2 (some .int), Cond.fieldLink RX0 15 "TriangleSheet$Points" "ys" "[I", Cond.methodLink RX2 227 yX2_lowest, Cond.instanceMethod yX2_lowest, Cond.selects RX2 yX2_lowest yX2_lowest, Cond.code yX2_lowest cX2_lowest 2 (some .int), Cond.methodLink RX2 259 yX2_haveSameCorners, Cond.instanceMethod yX2_haveSameCorners, Cond.selects RX2 yX2_haveSameCorners yX2_haveSameCorners, Cond.code yX2_haveSameCorners cX2_haveSameCorners 4 (some .boolean), Cond.methodLink RX2 268 yX1_hasCorner, Cond.instanceMethod yX1_hasCorner, Cond.selects RX1 yX1_hasCorner yX1_hasCorner, Cond.code yX1_hasCorner cX1_hasCorner 3 (some .boolean), Cond.methodLink RX2 262 yX2_reachesInto, Cond.instanceMethod yX2_reachesInto, Cond.selects RX2 yX2_reachesInto yX2_reachesInto, Cond.code yX2_reachesInto cX2_reachesInto 5 (some .boolean), Cond.methodLink RX2 161 yX2_hasPlace, Cond.instanceMethod yX2_hasPlace, Cond.selects RX2 yX2_hasPlace yX2_hasPlace, Cond.code yX2_hasPlace cX2_hasPlace 5 (some .boolean), Cond.methodLink RX2 198 yX2_turnBesideEdge]
def wsX2_areTidy_r4 : List Cond := [Cond.instanceMethod yX2_turnBesideEdge, Cond.selects RX2 yX2_turnBesideEdge yX2_turnBesideEdge, Cond.code yX2_turnBesideEdge cX2_turnBesideEdge 5 (some .int), Cond.methodLink RX2 194 yX0_turnAt, Cond.instanceMethod yX0_turnAt, Cond.selects RX0 yX0_turnAt yX0_turnAt, Cond.code yX0_turnAt cX0_turnAt 5 (some .int), Cond.methodLink RX2 265 yX2_crossesAnEdgeOf, Cond.instanceMethod yX2_crossesAnEdgeOf, Cond.selects RX2 yX2_crossesAnEdgeOf yX2_crossesAnEdgeOf, Cond.code yX2_crossesAnEdgeOf cX2_crossesAnEdgeOf 5 (some .boolean), Cond.methodLink RX2 271 yX0_isCrossing, Cond.instanceMethod yX0_isCrossing, Cond.selects RX0 yX0_isCrossing yX0_isCrossing, Cond.code yX0_isCrossing cX0_isCrossing 5 (some .boolean), Cond.methodLink RX0 34 yX0_turnOf, Cond.instanceMethod yX0_turnOf, Cond.selects RX0 yX0_turnOf yX0_turnOf, Cond.code yX0_turnOf cX0_turnOf 4 (some .int), Cond.methodLink RX0 30 yX0_turnAt, Cond.methodLink RX0 38 yX0_areOpposite, Cond.static yX0_areOpposite, Cond.code yX0_areOpposite cX0_areOpposite 2 (some .boolean)]
def wsX2_areTidy : List Cond := .code yX2_areTidy cX2_areTidy 3 (some .boolean) :: ((wsX2_areTidy_r1 ++ (wsX2_areTidy_r2 ++ (wsX2_areTidy_r3 ++ wsX2_areTidy_r4))) ++ wsX20 ++ wsX10 ++ wsX00)
def wsX2_firstUntidyBefore_r1 : List Cond := [Cond.fieldLink RX2 19 "TriangleSheet" "triangles" "LTriangleSheet$Triangles;", Cond.methodLink RX2 131 yX1_numberAt, Cond.instanceMethod yX1_numberAt, Cond.selects RX1 yX1_numberAt yX1_numberAt, Cond.initialized RX1, Cond.code yX1_numberAt cX1_numberAt 2 (some .int), Cond.fieldLink RX1 15 "TriangleSheet$Triangles" "there" "[I", Cond.methodLink RX2 253 yX2_areTidy, Cond.instanceMethod yX2_areTidy, Cond.selects RX2 yX2_areTidy yX2_areTidy, Cond.initialized RX2, Cond.code yX2_areTidy cX2_areTidy 3 (some .boolean), Cond.methodLink RX2 256 yX2_areFarApart, Cond.instanceMethod yX2_areFarApart, Cond.selects RX2 yX2_areFarApart yX2_areFarApart, Cond.code yX2_areFarApart cX2_areFarApart 3 (some .boolean), Cond.methodLink RX2 233 yX2_rightmost, Cond.instanceMethod yX2_rightmost, Cond.selects RX2 yX2_rightmost yX2_rightmost, Cond.code yX2_rightmost cX2_rightmost 2 (some .int), Cond.methodLink RX2 239 Lib.Math.max.name, Cond.static Lib.Math.max.name, Cond.initialized "java/lang/Math", Cond.code Lib.Math.max.name Lib.Math.max.code 2 (some .int)]
def wsX2_firstUntidyBefore_r2 : List Cond := [Cond.methodLink RX2 244 yX2_cornerX, Cond.instanceMethod yX2_cornerX, Cond.selects RX2 yX2_cornerX yX2_cornerX, Cond.code yX2_cornerX cX2_cornerX 3 (some .int), Cond.fieldLink RX2 10 "TriangleSheet" "points" "LTriangleSheet$Points;", Cond.methodLink RX2 107 yX1_cornerOf, Cond.instanceMethod yX1_cornerOf, Cond.selects RX1 yX1_cornerOf yX1_cornerOf, Cond.code yX1_cornerOf cX1_cornerOf 3 (some .int), Cond.fieldLink RX1 9 "TriangleSheet$Triangles" "corners" "[I", Cond.methodLink RX2 213 yX0_x, Cond.instanceMethod yX0_x, Cond.selects RX0 yX0_x yX0_x, Cond.initialized RX0, Cond.code yX0_x cX0_x 2 (some .int), Cond.fieldLink RX0 9 "TriangleSheet$Points" "xs" "[I", Cond.methodLink RX2 236 yX2_leftmost, Cond.instanceMethod yX2_leftmost, Cond.selects RX2 yX2_leftmost yX2_leftmost, Cond.code yX2_leftmost cX2_leftmost 2 (some .int), Cond.methodLink RX2 247 Lib.Math.min.name, Cond.static Lib.Math.min.name, Cond.code Lib.Math.min.name Lib.Math.min.code 2 (some .int), Cond.methodLink RX2 230 yX2_highest]
def wsX2_firstUntidyBefore_r3 : List Cond := [Cond.instanceMethod yX2_highest, Cond.selects RX2 yX2_highest yX2_highest, Cond.code yX2_highest cX2_highest 2 (some .int), Cond.methodLink RX2 250 yX2_cornerY, Cond.instanceMethod yX2_cornerY, Cond.selects RX2 yX2_cornerY yX2_cornerY, Cond.code yX2_cornerY cX2_cornerY 3 (some .int), Cond.methodLink RX2 210 yX0_y, Cond.instanceMethod yX0_y, Cond.selects RX0 yX0_y yX0_y, Cond.code yX0_y cX0_y 2 (some .int), Cond.fieldLink RX0 15 "TriangleSheet$Points" "ys" "[I", Cond.methodLink RX2 227 yX2_lowest, Cond.instanceMethod yX2_lowest, Cond.selects RX2 yX2_lowest yX2_lowest, Cond.code yX2_lowest cX2_lowest 2 (some .int), Cond.methodLink RX2 259 yX2_haveSameCorners, Cond.instanceMethod yX2_haveSameCorners, Cond.selects RX2 yX2_haveSameCorners yX2_haveSameCorners, Cond.code yX2_haveSameCorners cX2_haveSameCorners 4 (some .boolean), Cond.methodLink RX2 268 yX1_hasCorner, Cond.instanceMethod yX1_hasCorner, Cond.selects RX1 yX1_hasCorner yX1_hasCorner, Cond.code yX1_hasCorner cX1_hasCorner 3 (some .boolean)]
def wsX2_firstUntidyBefore_r4 : List Cond := [Cond.methodLink RX2 262 yX2_reachesInto, Cond.instanceMethod yX2_reachesInto, Cond.selects RX2 yX2_reachesInto yX2_reachesInto, Cond.code yX2_reachesInto cX2_reachesInto 5 (some .boolean), Cond.methodLink RX2 161 yX2_hasPlace, Cond.instanceMethod yX2_hasPlace, Cond.selects RX2 yX2_hasPlace yX2_hasPlace, Cond.code yX2_hasPlace cX2_hasPlace 5 (some .boolean), Cond.methodLink RX2 198 yX2_turnBesideEdge, Cond.instanceMethod yX2_turnBesideEdge, Cond.selects RX2 yX2_turnBesideEdge yX2_turnBesideEdge, Cond.code yX2_turnBesideEdge cX2_turnBesideEdge 5 (some .int), Cond.methodLink RX2 194 yX0_turnAt, Cond.instanceMethod yX0_turnAt, Cond.selects RX0 yX0_turnAt yX0_turnAt, Cond.code yX0_turnAt cX0_turnAt 5 (some .int), Cond.methodLink RX2 265 yX2_crossesAnEdgeOf, Cond.instanceMethod yX2_crossesAnEdgeOf, Cond.selects RX2 yX2_crossesAnEdgeOf yX2_crossesAnEdgeOf, Cond.code yX2_crossesAnEdgeOf cX2_crossesAnEdgeOf 5 (some .boolean), Cond.methodLink RX2 271 yX0_isCrossing, Cond.instanceMethod yX0_isCrossing, Cond.selects RX0 yX0_isCrossing yX0_isCrossing, Cond.code yX0_isCrossing cX0_isCrossing 5 (some .boolean)]
def wsX2_firstUntidyBefore_r5 : List Cond := [Cond.methodLink RX0 34 yX0_turnOf, Cond.instanceMethod yX0_turnOf, Cond.selects RX0 yX0_turnOf yX0_turnOf, Cond.code yX0_turnOf cX0_turnOf 4 (some .int), Cond.methodLink RX0 30 yX0_turnAt, Cond.methodLink RX0 38 yX0_areOpposite, Cond.static yX0_areOpposite, Cond.code yX0_areOpposite cX0_areOpposite 2 (some .boolean)]
def wsX2_firstUntidyBefore : List Cond := .code yX2_firstUntidyBefore cX2_firstUntidyBefore 5 (some .int) :: ((wsX2_firstUntidyBefore_r1 ++ (wsX2_firstUntidyBefore_r2 ++ (wsX2_firstUntidyBefore_r3 ++ (wsX2_firstUntidyBefore_r4 ++ wsX2_firstUntidyBefore_r5)))) ++ wsX20 ++ wsX10 ++ wsX00)
def wsX2_fault_r1 : List Cond := [Cond.fieldLink RX2 19 "TriangleSheet" "triangles" "LTriangleSheet$Triangles;", Cond.methodLink RX2 127 yX1_thereCount, Cond.instanceMethod yX1_thereCount, Cond.selects RX1 yX1_thereCount yX1_thereCount, Cond.initialized RX1, Cond.code yX1_thereCount cX1_thereCount 1 (some .int), Cond.fieldLink RX1 18 "TriangleSheet$Triangles" "thereCount" "I", Cond.methodLink RX2 131 yX1_numberAt, Cond.instanceMethod yX1_numberAt, Cond.selects RX1 yX1_numberAt yX1_numberAt, Cond.code yX1_numberAt cX1_numberAt 2 (some .int), Cond.fieldLink RX1 15 "TriangleSheet$Triangles" "there" "[I", Cond.methodLink RX2 135 yX2_isRight, Cond.instanceMethod yX2_isRight, Cond.selects RX2 yX2_isRight yX2_isRight, Cond.initialized RX2, Cond.code yX2_isRight cX2_isRight 2 (some .boolean), Cond.methodLink RX2 192 yX2_turnOf, Cond.instanceMethod yX2_turnOf, Cond.selects RX2 yX2_turnOf yX2_turnOf, Cond.code yX2_turnOf cX2_turnOf 2 (some .int), Cond.fieldLink RX2 10 "TriangleSheet" "points" "LTriangleSheet$Points;", Cond.methodLink RX2 107 yX1_cornerOf, Cond.instanceMethod yX1_cornerOf]
def wsX2_fault_r2 : List Cond := [Cond.selects RX1 yX1_cornerOf yX1_cornerOf, Cond.code yX1_cornerOf cX1_cornerOf 3 (some .int), Cond.fieldLink RX1 9 "TriangleSheet$Triangles" "corners" "[I", Cond.methodLink RX2 189 yX0_turnOf, Cond.instanceMethod yX0_turnOf, Cond.selects RX0 yX0_turnOf yX0_turnOf, Cond.initialized RX0, Cond.code yX0_turnOf cX0_turnOf 4 (some .int), Cond.fieldLink RX0 9 "TriangleSheet$Points" "xs" "[I", Cond.fieldLink RX0 15 "TriangleSheet$Points" "ys" "[I", Cond.methodLink RX0 30 yX0_turnAt, Cond.instanceMethod yX0_turnAt, Cond.selects RX0 yX0_turnAt yX0_turnAt, Cond.code yX0_turnAt cX0_turnAt 5 (some .int), Cond.methodLink RX2 138 yX2_rememberCulprits, Cond.instanceMethod yX2_rememberCulprits, Cond.selects RX2 yX2_rememberCulprits yX2_rememberCulprits, Cond.code yX2_rememberCulprits cX2_rememberCulprits 3 none, Cond.fieldLink RX2 31 "TriangleSheet" "faulty" "I", Cond.fieldLink RX2 35 "TriangleSheet" "faultyWith" "I", Cond.methodLink RX2 142 yX2_firstUntidyBefore, Cond.instanceMethod yX2_firstUntidyBefore, Cond.selects RX2 yX2_firstUntidyBefore yX2_firstUntidyBefore, Cond.code yX2_firstUntidyBefore cX2_firstUntidyBefore 5 (some .int)]
def wsX2_fault_r3 : List Cond := [Cond.methodLink RX2 253 yX2_areTidy, Cond.instanceMethod yX2_areTidy, Cond.selects RX2 yX2_areTidy yX2_areTidy, Cond.code yX2_areTidy cX2_areTidy 3 (some .boolean), Cond.methodLink RX2 256 yX2_areFarApart, Cond.instanceMethod yX2_areFarApart, Cond.selects RX2 yX2_areFarApart yX2_areFarApart, Cond.code yX2_areFarApart cX2_areFarApart 3 (some .boolean), Cond.methodLink RX2 233 yX2_rightmost, Cond.instanceMethod yX2_rightmost, Cond.selects RX2 yX2_rightmost yX2_rightmost, Cond.code yX2_rightmost cX2_rightmost 2 (some .int), Cond.methodLink RX2 239 Lib.Math.max.name, Cond.static Lib.Math.max.name, Cond.initialized "java/lang/Math", Cond.code Lib.Math.max.name Lib.Math.max.code 2 (some .int), Cond.methodLink RX2 244 yX2_cornerX, Cond.instanceMethod yX2_cornerX, Cond.selects RX2 yX2_cornerX yX2_cornerX, Cond.code yX2_cornerX cX2_cornerX 3 (some .int), Cond.methodLink RX2 213 yX0_x, Cond.instanceMethod yX0_x, Cond.selects RX0 yX0_x yX0_x, Cond.code yX0_x cX0_x 2 (some .int)]
def wsX2_fault_r4 : List Cond := [Cond.methodLink RX2 236 yX2_leftmost, Cond.instanceMethod yX2_leftmost, Cond.selects RX2 yX2_leftmost yX2_leftmost, Cond.code yX2_leftmost cX2_leftmost 2 (some .int), Cond.methodLink RX2 247 Lib.Math.min.name, Cond.static Lib.Math.min.name, Cond.code Lib.Math.min.name Lib.Math.min.code 2 (some .int), Cond.methodLink RX2 230 yX2_highest, Cond.instanceMethod yX2_highest, Cond.selects RX2 yX2_highest yX2_highest, Cond.code yX2_highest cX2_highest 2 (some .int), Cond.methodLink RX2 250 yX2_cornerY, Cond.instanceMethod yX2_cornerY, Cond.selects RX2 yX2_cornerY yX2_cornerY, Cond.code yX2_cornerY cX2_cornerY 3 (some .int), Cond.methodLink RX2 210 yX0_y, Cond.instanceMethod yX0_y, Cond.selects RX0 yX0_y yX0_y, Cond.code yX0_y cX0_y 2 (some .int), Cond.methodLink RX2 227 yX2_lowest, Cond.instanceMethod yX2_lowest, Cond.selects RX2 yX2_lowest yX2_lowest, Cond.code yX2_lowest cX2_lowest 2 (some .int), Cond.methodLink RX2 259 yX2_haveSameCorners]
def wsX2_fault_r5 : List Cond := [Cond.instanceMethod yX2_haveSameCorners, Cond.selects RX2 yX2_haveSameCorners yX2_haveSameCorners, Cond.code yX2_haveSameCorners cX2_haveSameCorners 4 (some .boolean), Cond.methodLink RX2 268 yX1_hasCorner, Cond.instanceMethod yX1_hasCorner, Cond.selects RX1 yX1_hasCorner yX1_hasCorner, Cond.code yX1_hasCorner cX1_hasCorner 3 (some .boolean), Cond.methodLink RX2 262 yX2_reachesInto, Cond.instanceMethod yX2_reachesInto, Cond.selects RX2 yX2_reachesInto yX2_reachesInto, Cond.code yX2_reachesInto cX2_reachesInto 5 (some .boolean), Cond.methodLink RX2 161 yX2_hasPlace, Cond.instanceMethod yX2_hasPlace, Cond.selects RX2 yX2_hasPlace yX2_hasPlace, Cond.code yX2_hasPlace cX2_hasPlace 5 (some .boolean), Cond.methodLink RX2 198 yX2_turnBesideEdge, Cond.instanceMethod yX2_turnBesideEdge, Cond.selects RX2 yX2_turnBesideEdge yX2_turnBesideEdge, Cond.code yX2_turnBesideEdge cX2_turnBesideEdge 5 (some .int), Cond.methodLink RX2 194 yX0_turnAt, Cond.methodLink RX2 265 yX2_crossesAnEdgeOf, Cond.instanceMethod yX2_crossesAnEdgeOf, Cond.selects RX2 yX2_crossesAnEdgeOf yX2_crossesAnEdgeOf, Cond.code yX2_crossesAnEdgeOf cX2_crossesAnEdgeOf 5 (some .boolean)]
def wsX2_fault_r6 : List Cond := [Cond.methodLink RX2 271 yX0_isCrossing, Cond.instanceMethod yX0_isCrossing, Cond.selects RX0 yX0_isCrossing yX0_isCrossing, Cond.code yX0_isCrossing cX0_isCrossing 5 (some .boolean), Cond.methodLink RX0 34 yX0_turnOf, Cond.methodLink RX0 38 yX0_areOpposite, Cond.static yX0_areOpposite, Cond.code yX0_areOpposite cX0_areOpposite 2 (some .boolean)]
def wsX2_fault : List Cond := .code yX2_fault cX2_fault 4 (some .int) :: ((wsX2_fault_r1 ++ (wsX2_fault_r2 ++ (wsX2_fault_r3 ++ (wsX2_fault_r4 ++ (wsX2_fault_r5 ++ wsX2_fault_r6))))) ++ wsX20 ++ wsX10 ++ wsX00)
def wsX2_culprit : List Cond := .code yX2_culprit cX2_culprit 2 (some .int) :: ([.fieldLink RX2 31 "TriangleSheet" "faulty" "I", .fieldLink RX2 35 "TriangleSheet" "faultyWith" "I"] ++ wsX20)
def wsX2_isPixel : List Cond := .code yX2_isPixel cX2_isPixel 2 (some .boolean) :: ([])
def wsX2_sampleOf : List Cond := .code yX2_sampleOf cX2_sampleOf 1 (some .int) :: ([])
def wsX2_ownsEdge : List Cond := .code yX2_ownsEdge cX2_ownsEdge 5 (some .boolean) :: ([.fieldLink RX2 19 "TriangleSheet" "triangles" "LTriangleSheet$Triangles;", .fieldLink RX2 10 "TriangleSheet" "points" "LTriangleSheet$Points;", .methodLink RX2 107 yX1_cornerOf, .instanceMethod yX1_cornerOf, .selects RX1 yX1_cornerOf yX1_cornerOf, .initialized RX1, .code yX1_cornerOf cX1_cornerOf 3 (some .int), .fieldLink RX1 9 "TriangleSheet$Triangles" "corners" "[I", .methodLink RX2 210 yX0_y, .instanceMethod yX0_y, .selects RX0 yX0_y yX0_y, .initialized RX0, .code yX0_y cX0_y 2 (some .int), .fieldLink RX0 15 "TriangleSheet$Points" "ys" "[I", .methodLink RX2 213 yX0_x, .instanceMethod yX0_x, .selects RX0 yX0_x yX0_x, .code yX0_x cX0_x 2 (some .int), .fieldLink RX0 9 "TriangleSheet$Points" "xs" "[I"] ++ wsX20 ++ wsX10 ++ wsX00)
def wsX2_liesInsideOrOnOwnEdges_r1 : List Cond := [Cond.methodLink RX2 198 yX2_turnBesideEdge, Cond.instanceMethod yX2_turnBesideEdge, Cond.selects RX2 yX2_turnBesideEdge yX2_turnBesideEdge, Cond.initialized RX2, Cond.code yX2_turnBesideEdge cX2_turnBesideEdge 5 (some .int), Cond.fieldLink RX2 10 "TriangleSheet" "points" "LTriangleSheet$Points;", Cond.fieldLink RX2 19 "TriangleSheet" "triangles" "LTriangleSheet$Triangles;", Cond.methodLink RX2 107 yX1_cornerOf, Cond.instanceMethod yX1_cornerOf, Cond.selects RX1 yX1_cornerOf yX1_cornerOf, Cond.initialized RX1, Cond.code yX1_cornerOf cX1_cornerOf 3 (some .int), Cond.fieldLink RX1 9 "TriangleSheet$Triangles" "corners" "[I", Cond.methodLink RX2 194 yX0_turnAt, Cond.instanceMethod yX0_turnAt, Cond.selects RX0 yX0_turnAt yX0_turnAt, Cond.initialized RX0, Cond.code yX0_turnAt cX0_turnAt 5 (some .int), Cond.fieldLink RX0 9 "TriangleSheet$Points" "xs" "[I", Cond.fieldLink RX0 15 "TriangleSheet$Points" "ys" "[I", Cond.methodLink RX2 207 yX2_ownsEdge, Cond.instanceMethod yX2_ownsEdge, Cond.selects RX2 yX2_ownsEdge yX2_ownsEdge, Cond.code yX2_ownsEdge cX2_ownsEdge 5 (some .boolean)]
def wsX2_liesInsideOrOnOwnEdges_r2 : List Cond := [Cond.methodLink RX2 210 yX0_y, Cond.instanceMethod yX0_y, Cond.selects RX0 yX0_y yX0_y, Cond.code yX0_y cX0_y 2 (some .int), Cond.methodLink RX2 213 yX0_x, Cond.instanceMethod yX0_x, Cond.selects RX0 yX0_x yX0_x, Cond.code yX0_x cX0_x 2 (some .int)]
def wsX2_liesInsideOrOnOwnEdges : List Cond := .code yX2_liesInsideOrOnOwnEdges cX2_liesInsideOrOnOwnEdges 6 (some .boolean) :: ((wsX2_liesInsideOrOnOwnEdges_r1 ++ wsX2_liesInsideOrOnOwnEdges_r2) ++ wsX20 ++ wsX10 ++ wsX00)
def wsX2_coversPixel_r1 : List Cond := [Cond.methodLink RX2 135 yX2_isRight, Cond.instanceMethod yX2_isRight, Cond.selects RX2 yX2_isRight yX2_isRight, Cond.initialized RX2, Cond.code yX2_isRight cX2_isRight 2 (some .boolean), Cond.methodLink RX2 192 yX2_turnOf, Cond.instanceMethod yX2_turnOf, Cond.selects RX2 yX2_turnOf yX2_turnOf, Cond.code yX2_turnOf cX2_turnOf 2 (some .int), Cond.fieldLink RX2 10 "TriangleSheet" "points" "LTriangleSheet$Points;", Cond.fieldLink RX2 19 "TriangleSheet" "triangles" "LTriangleSheet$Triangles;", Cond.methodLink RX2 107 yX1_cornerOf, Cond.instanceMethod yX1_cornerOf, Cond.selects RX1 yX1_cornerOf yX1_cornerOf, Cond.initialized RX1, Cond.code yX1_cornerOf cX1_cornerOf 3 (some .int), Cond.fieldLink RX1 9 "TriangleSheet$Triangles" "corners" "[I", Cond.methodLink RX2 189 yX0_turnOf, Cond.instanceMethod yX0_turnOf, Cond.selects RX0 yX0_turnOf yX0_turnOf, Cond.initialized RX0, Cond.code yX0_turnOf cX0_turnOf 4 (some .int), Cond.fieldLink RX0 9 "TriangleSheet$Points" "xs" "[I", Cond.fieldLink RX0 15 "TriangleSheet$Points" "ys" "[I"]
def wsX2_coversPixel_r2 : List Cond := [Cond.methodLink RX0 30 yX0_turnAt, Cond.instanceMethod yX0_turnAt, Cond.selects RX0 yX0_turnAt yX0_turnAt, Cond.code yX0_turnAt cX0_turnAt 5 (some .int), Cond.methodLink RX2 201 yX2_sampleOf, Cond.static yX2_sampleOf, Cond.code yX2_sampleOf cX2_sampleOf 1 (some .int), Cond.methodLink RX2 204 yX2_liesInsideOrOnOwnEdges, Cond.instanceMethod yX2_liesInsideOrOnOwnEdges, Cond.selects RX2 yX2_liesInsideOrOnOwnEdges yX2_liesInsideOrOnOwnEdges, Cond.code yX2_liesInsideOrOnOwnEdges cX2_liesInsideOrOnOwnEdges 6 (some .boolean), Cond.methodLink RX2 198 yX2_turnBesideEdge, Cond.instanceMethod yX2_turnBesideEdge, Cond.selects RX2 yX2_turnBesideEdge yX2_turnBesideEdge, Cond.code yX2_turnBesideEdge cX2_turnBesideEdge 5 (some .int), Cond.methodLink RX2 194 yX0_turnAt, Cond.methodLink RX2 207 yX2_ownsEdge, Cond.instanceMethod yX2_ownsEdge, Cond.selects RX2 yX2_ownsEdge yX2_ownsEdge, Cond.code yX2_ownsEdge cX2_ownsEdge 5 (some .boolean), Cond.methodLink RX2 210 yX0_y, Cond.instanceMethod yX0_y, Cond.selects RX0 yX0_y yX0_y, Cond.code yX0_y cX0_y 2 (some .int)]
def wsX2_coversPixel_r3 : List Cond := [Cond.methodLink RX2 213 yX0_x, Cond.instanceMethod yX0_x, Cond.selects RX0 yX0_x yX0_x, Cond.code yX0_x cX0_x 2 (some .int)]
def wsX2_coversPixel : List Cond := .code yX2_coversPixel cX2_coversPixel 4 (some .boolean) :: ((wsX2_coversPixel_r1 ++ (wsX2_coversPixel_r2 ++ wsX2_coversPixel_r3)) ++ wsX20 ++ wsX10 ++ wsX00)
def wsX2_covers_r1 : List Cond := [Cond.fieldLink RX2 19 "TriangleSheet" "triangles" "LTriangleSheet$Triangles;", Cond.methodLink RX2 145 yX2_isPixel, Cond.static yX2_isPixel, Cond.initialized RX2, Cond.code yX2_isPixel cX2_isPixel 2 (some .boolean), Cond.methodLink RX2 127 yX1_thereCount, Cond.instanceMethod yX1_thereCount, Cond.selects RX1 yX1_thereCount yX1_thereCount, Cond.initialized RX1, Cond.code yX1_thereCount cX1_thereCount 1 (some .int), Cond.fieldLink RX1 18 "TriangleSheet$Triangles" "thereCount" "I", Cond.methodLink RX2 131 yX1_numberAt, Cond.instanceMethod yX1_numberAt, Cond.selects RX1 yX1_numberAt yX1_numberAt, Cond.code yX1_numberAt cX1_numberAt 2 (some .int), Cond.fieldLink RX1 15 "TriangleSheet$Triangles" "there" "[I", Cond.methodLink RX2 148 yX2_coversPixel, Cond.instanceMethod yX2_coversPixel, Cond.selects RX2 yX2_coversPixel yX2_coversPixel, Cond.code yX2_coversPixel cX2_coversPixel 4 (some .boolean), Cond.methodLink RX2 135 yX2_isRight, Cond.instanceMethod yX2_isRight, Cond.selects RX2 yX2_isRight yX2_isRight, Cond.code yX2_isRight cX2_isRight 2 (some .boolean)]
def wsX2_covers_r2 : List Cond := [Cond.methodLink RX2 192 yX2_turnOf, Cond.instanceMethod yX2_turnOf, Cond.selects RX2 yX2_turnOf yX2_turnOf, Cond.code yX2_turnOf cX2_turnOf 2 (some .int), Cond.fieldLink RX2 10 "TriangleSheet" "points" "LTriangleSheet$Points;", Cond.methodLink RX2 107 yX1_cornerOf, Cond.instanceMethod yX1_cornerOf, Cond.selects RX1 yX1_cornerOf yX1_cornerOf, Cond.code yX1_cornerOf cX1_cornerOf 3 (some .int), Cond.fieldLink RX1 9 "TriangleSheet$Triangles" "corners" "[I", Cond.methodLink RX2 189 yX0_turnOf, Cond.instanceMethod yX0_turnOf, Cond.selects RX0 yX0_turnOf yX0_turnOf, Cond.initialized RX0, Cond.code yX0_turnOf cX0_turnOf 4 (some .int), Cond.fieldLink RX0 9 "TriangleSheet$Points" "xs" "[I", Cond.fieldLink RX0 15 "TriangleSheet$Points" "ys" "[I", Cond.methodLink RX0 30 yX0_turnAt, Cond.instanceMethod yX0_turnAt, Cond.selects RX0 yX0_turnAt yX0_turnAt, Cond.code yX0_turnAt cX0_turnAt 5 (some .int), Cond.methodLink RX2 201 yX2_sampleOf, Cond.static yX2_sampleOf, Cond.code yX2_sampleOf cX2_sampleOf 1 (some .int)]
def wsX2_covers_r3 : List Cond := [Cond.methodLink RX2 204 yX2_liesInsideOrOnOwnEdges, Cond.instanceMethod yX2_liesInsideOrOnOwnEdges, Cond.selects RX2 yX2_liesInsideOrOnOwnEdges yX2_liesInsideOrOnOwnEdges, Cond.code yX2_liesInsideOrOnOwnEdges cX2_liesInsideOrOnOwnEdges 6 (some .boolean), Cond.methodLink RX2 198 yX2_turnBesideEdge, Cond.instanceMethod yX2_turnBesideEdge, Cond.selects RX2 yX2_turnBesideEdge yX2_turnBesideEdge, Cond.code yX2_turnBesideEdge cX2_turnBesideEdge 5 (some .int), Cond.methodLink RX2 194 yX0_turnAt, Cond.methodLink RX2 207 yX2_ownsEdge, Cond.instanceMethod yX2_ownsEdge, Cond.selects RX2 yX2_ownsEdge yX2_ownsEdge, Cond.code yX2_ownsEdge cX2_ownsEdge 5 (some .boolean), Cond.methodLink RX2 210 yX0_y, Cond.instanceMethod yX0_y, Cond.selects RX0 yX0_y yX0_y, Cond.code yX0_y cX0_y 2 (some .int), Cond.methodLink RX2 213 yX0_x, Cond.instanceMethod yX0_x, Cond.selects RX0 yX0_x yX0_x, Cond.code yX0_x cX0_x 2 (some .int)]
def wsX2_covers : List Cond := .code yX2_covers cX2_covers 5 (some .int) :: ((wsX2_covers_r1 ++ (wsX2_covers_r2 ++ wsX2_covers_r3)) ++ wsX20 ++ wsX10 ++ wsX00)
def wsX2_who_r1 : List Cond := [Cond.fieldLink RX2 19 "TriangleSheet" "triangles" "LTriangleSheet$Triangles;", Cond.methodLink RX2 145 yX2_isPixel, Cond.static yX2_isPixel, Cond.initialized RX2, Cond.code yX2_isPixel cX2_isPixel 2 (some .boolean), Cond.methodLink RX2 127 yX1_thereCount, Cond.instanceMethod yX1_thereCount, Cond.selects RX1 yX1_thereCount yX1_thereCount, Cond.initialized RX1, Cond.code yX1_thereCount cX1_thereCount 1 (some .int), Cond.fieldLink RX1 18 "TriangleSheet$Triangles" "thereCount" "I", Cond.methodLink RX2 131 yX1_numberAt, Cond.instanceMethod yX1_numberAt, Cond.selects RX1 yX1_numberAt yX1_numberAt, Cond.code yX1_numberAt cX1_numberAt 2 (some .int), Cond.fieldLink RX1 15 "TriangleSheet$Triangles" "there" "[I", Cond.methodLink RX2 148 yX2_coversPixel, Cond.instanceMethod yX2_coversPixel, Cond.selects RX2 yX2_coversPixel yX2_coversPixel, Cond.code yX2_coversPixel cX2_coversPixel 4 (some .boolean), Cond.methodLink RX2 135 yX2_isRight, Cond.instanceMethod yX2_isRight, Cond.selects RX2 yX2_isRight yX2_isRight, Cond.code yX2_isRight cX2_isRight 2 (some .boolean)]
def wsX2_who_r2 : List Cond := [Cond.methodLink RX2 192 yX2_turnOf, Cond.instanceMethod yX2_turnOf, Cond.selects RX2 yX2_turnOf yX2_turnOf, Cond.code yX2_turnOf cX2_turnOf 2 (some .int), Cond.fieldLink RX2 10 "TriangleSheet" "points" "LTriangleSheet$Points;", Cond.methodLink RX2 107 yX1_cornerOf, Cond.instanceMethod yX1_cornerOf, Cond.selects RX1 yX1_cornerOf yX1_cornerOf, Cond.code yX1_cornerOf cX1_cornerOf 3 (some .int), Cond.fieldLink RX1 9 "TriangleSheet$Triangles" "corners" "[I", Cond.methodLink RX2 189 yX0_turnOf, Cond.instanceMethod yX0_turnOf, Cond.selects RX0 yX0_turnOf yX0_turnOf, Cond.initialized RX0, Cond.code yX0_turnOf cX0_turnOf 4 (some .int), Cond.fieldLink RX0 9 "TriangleSheet$Points" "xs" "[I", Cond.fieldLink RX0 15 "TriangleSheet$Points" "ys" "[I", Cond.methodLink RX0 30 yX0_turnAt, Cond.instanceMethod yX0_turnAt, Cond.selects RX0 yX0_turnAt yX0_turnAt, Cond.code yX0_turnAt cX0_turnAt 5 (some .int), Cond.methodLink RX2 201 yX2_sampleOf, Cond.static yX2_sampleOf, Cond.code yX2_sampleOf cX2_sampleOf 1 (some .int)]
def wsX2_who_r3 : List Cond := [Cond.methodLink RX2 204 yX2_liesInsideOrOnOwnEdges, Cond.instanceMethod yX2_liesInsideOrOnOwnEdges, Cond.selects RX2 yX2_liesInsideOrOnOwnEdges yX2_liesInsideOrOnOwnEdges, Cond.code yX2_liesInsideOrOnOwnEdges cX2_liesInsideOrOnOwnEdges 6 (some .boolean), Cond.methodLink RX2 198 yX2_turnBesideEdge, Cond.instanceMethod yX2_turnBesideEdge, Cond.selects RX2 yX2_turnBesideEdge yX2_turnBesideEdge, Cond.code yX2_turnBesideEdge cX2_turnBesideEdge 5 (some .int), Cond.methodLink RX2 194 yX0_turnAt, Cond.methodLink RX2 207 yX2_ownsEdge, Cond.instanceMethod yX2_ownsEdge, Cond.selects RX2 yX2_ownsEdge yX2_ownsEdge, Cond.code yX2_ownsEdge cX2_ownsEdge 5 (some .boolean), Cond.methodLink RX2 210 yX0_y, Cond.instanceMethod yX0_y, Cond.selects RX0 yX0_y yX0_y, Cond.code yX0_y cX0_y 2 (some .int), Cond.methodLink RX2 213 yX0_x, Cond.instanceMethod yX0_x, Cond.selects RX0 yX0_x yX0_x, Cond.code yX0_x cX0_x 2 (some .int)]
def wsX2_who : List Cond := .code yX2_who cX2_who 5 (some .int) :: ((wsX2_who_r1 ++ (wsX2_who_r2 ++ wsX2_who_r3)) ++ wsX20 ++ wsX10 ++ wsX00)
def wsX2_coveredBits_r1 : List Cond := [Cond.methodLink RX2 227 yX2_lowest, Cond.instanceMethod yX2_lowest, Cond.selects RX2 yX2_lowest yX2_lowest, Cond.initialized RX2, Cond.code yX2_lowest cX2_lowest 2 (some .int), Cond.methodLink RX2 247 Lib.Math.min.name, Cond.static Lib.Math.min.name, Cond.initialized "java/lang/Math", Cond.code Lib.Math.min.name Lib.Math.min.code 2 (some .int), Cond.methodLink RX2 250 yX2_cornerY, Cond.instanceMethod yX2_cornerY, Cond.selects RX2 yX2_cornerY yX2_cornerY, Cond.code yX2_cornerY cX2_cornerY 3 (some .int), Cond.fieldLink RX2 10 "TriangleSheet" "points" "LTriangleSheet$Points;", Cond.fieldLink RX2 19 "TriangleSheet" "triangles" "LTriangleSheet$Triangles;", Cond.methodLink RX2 107 yX1_cornerOf, Cond.instanceMethod yX1_cornerOf, Cond.selects RX1 yX1_cornerOf yX1_cornerOf, Cond.initialized RX1, Cond.code yX1_cornerOf cX1_cornerOf 3 (some .int), Cond.fieldLink RX1 9 "TriangleSheet$Triangles" "corners" "[I", Cond.methodLink RX2 210 yX0_y, Cond.instanceMethod yX0_y, Cond.selects RX0 yX0_y yX0_y]
def wsX2_coveredBits_r2 : List Cond := [Cond.initialized RX0, Cond.code yX0_y cX0_y 2 (some .int), Cond.fieldLink RX0 15 "TriangleSheet$Points" "ys" "[I", Cond.methodLink RX2 230 yX2_highest, Cond.instanceMethod yX2_highest, Cond.selects RX2 yX2_highest yX2_highest, Cond.code yX2_highest cX2_highest 2 (some .int), Cond.methodLink RX2 239 Lib.Math.max.name, Cond.static Lib.Math.max.name, Cond.code Lib.Math.max.name Lib.Math.max.code 2 (some .int), Cond.methodLink RX2 135 yX2_isRight, Cond.instanceMethod yX2_isRight, Cond.selects RX2 yX2_isRight yX2_isRight, Cond.code yX2_isRight cX2_isRight 2 (some .boolean), Cond.methodLink RX2 192 yX2_turnOf, Cond.instanceMethod yX2_turnOf, Cond.selects RX2 yX2_turnOf yX2_turnOf, Cond.code yX2_turnOf cX2_turnOf 2 (some .int), Cond.methodLink RX2 189 yX0_turnOf, Cond.instanceMethod yX0_turnOf, Cond.selects RX0 yX0_turnOf yX0_turnOf, Cond.code yX0_turnOf cX0_turnOf 4 (some .int), Cond.fieldLink RX0 9 "TriangleSheet$Points" "xs" "[I", Cond.methodLink RX0 30 yX0_turnAt]
def wsX2_coveredBits_r3 : List Cond := [Cond.instanceMethod yX0_turnAt, Cond.selects RX0 yX0_turnAt yX0_turnAt, Cond.code yX0_turnAt cX0_turnAt 5 (some .int), Cond.methodLink RX2 233 yX2_rightmost, Cond.instanceMethod yX2_rightmost, Cond.selects RX2 yX2_rightmost yX2_rightmost, Cond.code yX2_rightmost cX2_rightmost 2 (some .int), Cond.methodLink RX2 244 yX2_cornerX, Cond.instanceMethod yX2_cornerX, Cond.selects RX2 yX2_cornerX yX2_cornerX, Cond.code yX2_cornerX cX2_cornerX 3 (some .int), Cond.methodLink RX2 213 yX0_x, Cond.instanceMethod yX0_x, Cond.selects RX0 yX0_x yX0_x, Cond.code yX0_x cX0_x 2 (some .int), Cond.methodLink RX2 236 yX2_leftmost, Cond.instanceMethod yX2_leftmost, Cond.selects RX2 yX2_leftmost yX2_leftmost, Cond.code yX2_leftmost cX2_leftmost 2 (some .int), Cond.methodLink RX2 201 yX2_sampleOf, Cond.static yX2_sampleOf, Cond.code yX2_sampleOf cX2_sampleOf 1 (some .int), Cond.methodLink RX2 204 yX2_liesInsideOrOnOwnEdges, Cond.instanceMethod yX2_liesInsideOrOnOwnEdges]
def wsX2_coveredBits_r4 : List Cond := [Cond.selects RX2 yX2_liesInsideOrOnOwnEdges yX2_liesInsideOrOnOwnEdges, Cond.code yX2_liesInsideOrOnOwnEdges cX2_liesInsideOrOnOwnEdges 6 (some .boolean), Cond.methodLink RX2 198 yX2_turnBesideEdge, Cond.instanceMethod yX2_turnBesideEdge, Cond.selects RX2 yX2_turnBesideEdge yX2_turnBesideEdge, Cond.code yX2_turnBesideEdge cX2_turnBesideEdge 5 (some .int), Cond.methodLink RX2 194 yX0_turnAt, Cond.methodLink RX2 207 yX2_ownsEdge, Cond.instanceMethod yX2_ownsEdge, Cond.selects RX2 yX2_ownsEdge yX2_ownsEdge, Cond.code yX2_ownsEdge cX2_ownsEdge 5 (some .boolean)]
def wsX2_coveredBits : List Cond := .code yX2_coveredBits cX2_coveredBits 6 (some .int) :: ((wsX2_coveredBits_r1 ++ (wsX2_coveredBits_r2 ++ (wsX2_coveredBits_r3 ++ wsX2_coveredBits_r4))) ++ wsX20 ++ wsX10 ++ wsX00)
def wsJ6_bitCount_0f7a4 : List Cond := .code yJ6_bitCount_0f7a4 cJ6_bitCount_0f7a4 1 (some .int) :: ([.constant RJ6 265 (1431655765), .constant RJ6 266 (858993459), .constant RJ6 267 (252645135)])
def wsX2_paintedInRow_r1 : List Cond := [Cond.fieldLink RX2 19 "TriangleSheet" "triangles" "LTriangleSheet$Triangles;", Cond.methodLink RX2 127 yX1_thereCount, Cond.instanceMethod yX1_thereCount, Cond.selects RX1 yX1_thereCount yX1_thereCount, Cond.initialized RX1, Cond.code yX1_thereCount cX1_thereCount 1 (some .int), Cond.fieldLink RX1 18 "TriangleSheet$Triangles" "thereCount" "I", Cond.methodLink RX2 131 yX1_numberAt, Cond.instanceMethod yX1_numberAt, Cond.selects RX1 yX1_numberAt yX1_numberAt, Cond.code yX1_numberAt cX1_numberAt 2 (some .int), Cond.fieldLink RX1 15 "TriangleSheet$Triangles" "there" "[I", Cond.methodLink RX2 219 yX2_coveredBits, Cond.instanceMethod yX2_coveredBits, Cond.selects RX2 yX2_coveredBits yX2_coveredBits, Cond.initialized RX2, Cond.code yX2_coveredBits cX2_coveredBits 6 (some .int), Cond.methodLink RX2 227 yX2_lowest, Cond.instanceMethod yX2_lowest, Cond.selects RX2 yX2_lowest yX2_lowest, Cond.code yX2_lowest cX2_lowest 2 (some .int), Cond.methodLink RX2 247 Lib.Math.min.name, Cond.static Lib.Math.min.name, Cond.initialized "java/lang/Math"]
def wsX2_paintedInRow_r2 : List Cond := [Cond.code Lib.Math.min.name Lib.Math.min.code 2 (some .int), Cond.methodLink RX2 250 yX2_cornerY, Cond.instanceMethod yX2_cornerY, Cond.selects RX2 yX2_cornerY yX2_cornerY, Cond.code yX2_cornerY cX2_cornerY 3 (some .int), Cond.fieldLink RX2 10 "TriangleSheet" "points" "LTriangleSheet$Points;", Cond.methodLink RX2 107 yX1_cornerOf, Cond.instanceMethod yX1_cornerOf, Cond.selects RX1 yX1_cornerOf yX1_cornerOf, Cond.code yX1_cornerOf cX1_cornerOf 3 (some .int), Cond.fieldLink RX1 9 "TriangleSheet$Triangles" "corners" "[I", Cond.methodLink RX2 210 yX0_y, Cond.instanceMethod yX0_y, Cond.selects RX0 yX0_y yX0_y, Cond.initialized RX0, Cond.code yX0_y cX0_y 2 (some .int), Cond.fieldLink RX0 15 "TriangleSheet$Points" "ys" "[I", Cond.methodLink RX2 230 yX2_highest, Cond.instanceMethod yX2_highest, Cond.selects RX2 yX2_highest yX2_highest, Cond.code yX2_highest cX2_highest 2 (some .int), Cond.methodLink RX2 239 Lib.Math.max.name, Cond.static Lib.Math.max.name, Cond.code Lib.Math.max.name Lib.Math.max.code 2 (some .int)]
def wsX2_paintedInRow_r3 : List Cond := [Cond.methodLink RX2 135 yX2_isRight, Cond.instanceMethod yX2_isRight, Cond.selects RX2 yX2_isRight yX2_isRight, Cond.code yX2_isRight cX2_isRight 2 (some .boolean), Cond.methodLink RX2 192 yX2_turnOf, Cond.instanceMethod yX2_turnOf, Cond.selects RX2 yX2_turnOf yX2_turnOf, Cond.code yX2_turnOf cX2_turnOf 2 (some .int), Cond.methodLink RX2 189 yX0_turnOf, Cond.instanceMethod yX0_turnOf, Cond.selects RX0 yX0_turnOf yX0_turnOf, Cond.code yX0_turnOf cX0_turnOf 4 (some .int), Cond.fieldLink RX0 9 "TriangleSheet$Points" "xs" "[I", Cond.methodLink RX0 30 yX0_turnAt, Cond.instanceMethod yX0_turnAt, Cond.selects RX0 yX0_turnAt yX0_turnAt, Cond.code yX0_turnAt cX0_turnAt 5 (some .int), Cond.methodLink RX2 233 yX2_rightmost, Cond.instanceMethod yX2_rightmost, Cond.selects RX2 yX2_rightmost yX2_rightmost, Cond.code yX2_rightmost cX2_rightmost 2 (some .int), Cond.methodLink RX2 244 yX2_cornerX, Cond.instanceMethod yX2_cornerX, Cond.selects RX2 yX2_cornerX yX2_cornerX]
def wsX2_paintedInRow_r4 : List Cond := [Cond.code yX2_cornerX cX2_cornerX 3 (some .int), Cond.methodLink RX2 213 yX0_x, Cond.instanceMethod yX0_x, Cond.selects RX0 yX0_x yX0_x, Cond.code yX0_x cX0_x 2 (some .int), Cond.methodLink RX2 236 yX2_leftmost, Cond.instanceMethod yX2_leftmost, Cond.selects RX2 yX2_leftmost yX2_leftmost, Cond.code yX2_leftmost cX2_leftmost 2 (some .int), Cond.methodLink RX2 201 yX2_sampleOf, Cond.static yX2_sampleOf, Cond.code yX2_sampleOf cX2_sampleOf 1 (some .int), Cond.methodLink RX2 204 yX2_liesInsideOrOnOwnEdges, Cond.instanceMethod yX2_liesInsideOrOnOwnEdges, Cond.selects RX2 yX2_liesInsideOrOnOwnEdges yX2_liesInsideOrOnOwnEdges, Cond.code yX2_liesInsideOrOnOwnEdges cX2_liesInsideOrOnOwnEdges 6 (some .boolean), Cond.methodLink RX2 198 yX2_turnBesideEdge, Cond.instanceMethod yX2_turnBesideEdge, Cond.selects RX2 yX2_turnBesideEdge yX2_turnBesideEdge, Cond.code yX2_turnBesideEdge cX2_turnBesideEdge 5 (some .int), Cond.methodLink RX2 194 yX0_turnAt, Cond.methodLink RX2 207 yX2_ownsEdge, Cond.instanceMethod yX2_ownsEdge, Cond.selects RX2 yX2_ownsEdge yX2_ownsEdge]
def wsX2_paintedInRow_r5 : List Cond := [Cond.code yX2_ownsEdge cX2_ownsEdge 5 (some .boolean), Cond.methodLink RX2 222 yJ6_bitCount_0f7a4, Cond.static yJ6_bitCount_0f7a4, Cond.initialized RJ6, Cond.code yJ6_bitCount_0f7a4 cJ6_bitCount_0f7a4 1 (some .int), Cond.constant RJ6 265 (1431655765), Cond.constant RJ6 266 (858993459), Cond.constant RJ6 267 (252645135)]
def wsX2_paintedInRow : List Cond := .code yX2_paintedInRow cX2_paintedInRow 8 (some .int) :: ((wsX2_paintedInRow_r1 ++ (wsX2_paintedInRow_r2 ++ (wsX2_paintedInRow_r3 ++ (wsX2_paintedInRow_r4 ++ wsX2_paintedInRow_r5)))) ++ wsX20 ++ wsX10 ++ wsX00)
def wsX2_paintedPixels_r1 : List Cond := [Cond.methodLink RX2 216 yX2_paintedInRow, Cond.instanceMethod yX2_paintedInRow, Cond.selects RX2 yX2_paintedInRow yX2_paintedInRow, Cond.initialized RX2, Cond.code yX2_paintedInRow cX2_paintedInRow 8 (some .int), Cond.fieldLink RX2 19 "TriangleSheet" "triangles" "LTriangleSheet$Triangles;", Cond.methodLink RX2 127 yX1_thereCount, Cond.instanceMethod yX1_thereCount, Cond.selects RX1 yX1_thereCount yX1_thereCount, Cond.initialized RX1, Cond.code yX1_thereCount cX1_thereCount 1 (some .int), Cond.fieldLink RX1 18 "TriangleSheet$Triangles" "thereCount" "I", Cond.methodLink RX2 131 yX1_numberAt, Cond.instanceMethod yX1_numberAt, Cond.selects RX1 yX1_numberAt yX1_numberAt, Cond.code yX1_numberAt cX1_numberAt 2 (some .int), Cond.fieldLink RX1 15 "TriangleSheet$Triangles" "there" "[I", Cond.methodLink RX2 219 yX2_coveredBits, Cond.instanceMethod yX2_coveredBits, Cond.selects RX2 yX2_coveredBits yX2_coveredBits, Cond.code yX2_coveredBits cX2_coveredBits 6 (some .int), Cond.methodLink RX2 227 yX2_lowest, Cond.instanceMethod yX2_lowest, Cond.selects RX2 yX2_lowest yX2_lowest]
def wsX2_paintedPixels_r2 : List Cond := [Cond.code yX2_lowest cX2_lowest 2 (some .int), Cond.methodLink RX2 247 Lib.Math.min.name, Cond.static Lib.Math.min.name, Cond.initialized "java/lang/Math", Cond.code Lib.Math.min.name Lib.Math.min.code 2 (some .int), Cond.methodLink RX2 250 yX2_cornerY, Cond.instanceMethod yX2_cornerY, Cond.selects RX2 yX2_cornerY yX2_cornerY, Cond.code yX2_cornerY cX2_cornerY 3 (some .int), Cond.fieldLink RX2 10 "TriangleSheet" "points" "LTriangleSheet$Points;", Cond.methodLink RX2 107 yX1_cornerOf, Cond.instanceMethod yX1_cornerOf, Cond.selects RX1 yX1_cornerOf yX1_cornerOf, Cond.code yX1_cornerOf cX1_cornerOf 3 (some .int), Cond.fieldLink RX1 9 "TriangleSheet$Triangles" "corners" "[I", Cond.methodLink RX2 210 yX0_y, Cond.instanceMethod yX0_y, Cond.selects RX0 yX0_y yX0_y, Cond.initialized RX0, Cond.code yX0_y cX0_y 2 (some .int), Cond.fieldLink RX0 15 "TriangleSheet$Points" "ys" "[I", Cond.methodLink RX2 230 yX2_highest, Cond.instanceMethod yX2_highest, Cond.selects RX2 yX2_highest yX2_highest]
def wsX2_paintedPixels_r3 : List Cond := [Cond.code yX2_highest cX2_highest 2 (some .int), Cond.methodLink RX2 239 Lib.Math.max.name, Cond.static Lib.Math.max.name, Cond.code Lib.Math.max.name Lib.Math.max.code 2 (some .int), Cond.methodLink RX2 135 yX2_isRight, Cond.instanceMethod yX2_isRight, Cond.selects RX2 yX2_isRight yX2_isRight, Cond.code yX2_isRight cX2_isRight 2 (some .boolean), Cond.methodLink RX2 192 yX2_turnOf, Cond.instanceMethod yX2_turnOf, Cond.selects RX2 yX2_turnOf yX2_turnOf, Cond.code yX2_turnOf cX2_turnOf 2 (some .int), Cond.methodLink RX2 189 yX0_turnOf, Cond.instanceMethod yX0_turnOf, Cond.selects RX0 yX0_turnOf yX0_turnOf, Cond.code yX0_turnOf cX0_turnOf 4 (some .int), Cond.fieldLink RX0 9 "TriangleSheet$Points" "xs" "[I", Cond.methodLink RX0 30 yX0_turnAt, Cond.instanceMethod yX0_turnAt, Cond.selects RX0 yX0_turnAt yX0_turnAt, Cond.code yX0_turnAt cX0_turnAt 5 (some .int), Cond.methodLink RX2 233 yX2_rightmost, Cond.instanceMethod yX2_rightmost, Cond.selects RX2 yX2_rightmost yX2_rightmost]
def wsX2_paintedPixels_r4 : List Cond := [Cond.code yX2_rightmost cX2_rightmost 2 (some .int), Cond.methodLink RX2 244 yX2_cornerX, Cond.instanceMethod yX2_cornerX, Cond.selects RX2 yX2_cornerX yX2_cornerX, Cond.code yX2_cornerX cX2_cornerX 3 (some .int), Cond.methodLink RX2 213 yX0_x, Cond.instanceMethod yX0_x, Cond.selects RX0 yX0_x yX0_x, Cond.code yX0_x cX0_x 2 (some .int), Cond.methodLink RX2 236 yX2_leftmost, Cond.instanceMethod yX2_leftmost, Cond.selects RX2 yX2_leftmost yX2_leftmost, Cond.code yX2_leftmost cX2_leftmost 2 (some .int), Cond.methodLink RX2 201 yX2_sampleOf, Cond.static yX2_sampleOf, Cond.code yX2_sampleOf cX2_sampleOf 1 (some .int), Cond.methodLink RX2 204 yX2_liesInsideOrOnOwnEdges, Cond.instanceMethod yX2_liesInsideOrOnOwnEdges, Cond.selects RX2 yX2_liesInsideOrOnOwnEdges yX2_liesInsideOrOnOwnEdges, Cond.code yX2_liesInsideOrOnOwnEdges cX2_liesInsideOrOnOwnEdges 6 (some .boolean), Cond.methodLink RX2 198 yX2_turnBesideEdge, Cond.instanceMethod yX2_turnBesideEdge, Cond.selects RX2 yX2_turnBesideEdge yX2_turnBesideEdge, Cond.code yX2_turnBesideEdge cX2_turnBesideEdge 5 (some .int)]
def wsX2_paintedPixels_r5 : List Cond := [Cond.methodLink RX2 194 yX0_turnAt, Cond.methodLink RX2 207 yX2_ownsEdge, Cond.instanceMethod yX2_ownsEdge, Cond.selects RX2 yX2_ownsEdge yX2_ownsEdge, Cond.code yX2_ownsEdge cX2_ownsEdge 5 (some .boolean), Cond.methodLink RX2 222 yJ6_bitCount_0f7a4, Cond.static yJ6_bitCount_0f7a4, Cond.initialized RJ6, Cond.code yJ6_bitCount_0f7a4 cJ6_bitCount_0f7a4 1 (some .int), Cond.constant RJ6 265 (1431655765), Cond.constant RJ6 266 (858993459), Cond.constant RJ6 267 (252645135)]
def wsX2_paintedPixels : List Cond := .code yX2_paintedPixels cX2_paintedPixels 5 (some .long) :: ((wsX2_paintedPixels_r1 ++ (wsX2_paintedPixels_r2 ++ (wsX2_paintedPixels_r3 ++ (wsX2_paintedPixels_r4 ++ wsX2_paintedPixels_r5)))) ++ wsX20 ++ wsX10 ++ wsX00)
def wsX2_sumOfTurns_r1 : List Cond := [Cond.fieldLink RX2 19 "TriangleSheet" "triangles" "LTriangleSheet$Triangles;", Cond.methodLink RX2 239 Lib.Math.max.name, Cond.static Lib.Math.max.name, Cond.initialized "java/lang/Math", Cond.code Lib.Math.max.name Lib.Math.max.code 2 (some .int), Cond.methodLink RX2 127 yX1_thereCount, Cond.instanceMethod yX1_thereCount, Cond.selects RX1 yX1_thereCount yX1_thereCount, Cond.initialized RX1, Cond.code yX1_thereCount cX1_thereCount 1 (some .int), Cond.fieldLink RX1 18 "TriangleSheet$Triangles" "thereCount" "I", Cond.methodLink RX2 131 yX1_numberAt, Cond.instanceMethod yX1_numberAt, Cond.selects RX1 yX1_numberAt yX1_numberAt, Cond.code yX1_numberAt cX1_numberAt 2 (some .int), Cond.fieldLink RX1 15 "TriangleSheet$Triangles" "there" "[I", Cond.methodLink RX2 192 yX2_turnOf, Cond.instanceMethod yX2_turnOf, Cond.selects RX2 yX2_turnOf yX2_turnOf, Cond.initialized RX2, Cond.code yX2_turnOf cX2_turnOf 2 (some .int), Cond.fieldLink RX2 10 "TriangleSheet" "points" "LTriangleSheet$Points;", Cond.methodLink RX2 107 yX1_cornerOf, Cond.instanceMethod yX1_cornerOf]
def wsX2_sumOfTurns_r2 : List Cond := [Cond.selects RX1 yX1_cornerOf yX1_cornerOf, Cond.code yX1_cornerOf cX1_cornerOf 3 (some .int), Cond.fieldLink RX1 9 "TriangleSheet$Triangles" "corners" "[I", Cond.methodLink RX2 189 yX0_turnOf, Cond.instanceMethod yX0_turnOf, Cond.selects RX0 yX0_turnOf yX0_turnOf, Cond.initialized RX0, Cond.code yX0_turnOf cX0_turnOf 4 (some .int), Cond.fieldLink RX0 9 "TriangleSheet$Points" "xs" "[I", Cond.fieldLink RX0 15 "TriangleSheet$Points" "ys" "[I", Cond.methodLink RX0 30 yX0_turnAt, Cond.instanceMethod yX0_turnAt, Cond.selects RX0 yX0_turnAt yX0_turnAt, Cond.code yX0_turnAt cX0_turnAt 5 (some .int)]
def wsX2_sumOfTurns : List Cond := .code yX2_sumOfTurns cX2_sumOfTurns 4 (some .long) :: ((wsX2_sumOfTurns_r1 ++ wsX2_sumOfTurns_r2) ++ wsX20 ++ wsX10 ++ wsX00)
def wsX2_painted_r1 : List Cond := [Cond.constantLong RX2 159 (-1), Cond.methodLink RX2 151 yX2_paintedPixels, Cond.instanceMethod yX2_paintedPixels, Cond.selects RX2 yX2_paintedPixels yX2_paintedPixels, Cond.initialized RX2, Cond.code yX2_paintedPixels cX2_paintedPixels 5 (some .long), Cond.methodLink RX2 216 yX2_paintedInRow, Cond.instanceMethod yX2_paintedInRow, Cond.selects RX2 yX2_paintedInRow yX2_paintedInRow, Cond.code yX2_paintedInRow cX2_paintedInRow 8 (some .int), Cond.fieldLink RX2 19 "TriangleSheet" "triangles" "LTriangleSheet$Triangles;", Cond.methodLink RX2 127 yX1_thereCount, Cond.instanceMethod yX1_thereCount, Cond.selects RX1 yX1_thereCount yX1_thereCount, Cond.initialized RX1, Cond.code yX1_thereCount cX1_thereCount 1 (some .int), Cond.fieldLink RX1 18 "TriangleSheet$Triangles" "thereCount" "I", Cond.methodLink RX2 131 yX1_numberAt, Cond.instanceMethod yX1_numberAt, Cond.selects RX1 yX1_numberAt yX1_numberAt, Cond.code yX1_numberAt cX1_numberAt 2 (some .int), Cond.fieldLink RX1 15 "TriangleSheet$Triangles" "there" "[I", Cond.methodLink RX2 219 yX2_coveredBits, Cond.instanceMethod yX2_coveredBits]
def wsX2_painted_r2 : List Cond := [Cond.selects RX2 yX2_coveredBits yX2_coveredBits, Cond.code yX2_coveredBits cX2_coveredBits 6 (some .int), Cond.methodLink RX2 227 yX2_lowest, Cond.instanceMethod yX2_lowest, Cond.selects RX2 yX2_lowest yX2_lowest, Cond.code yX2_lowest cX2_lowest 2 (some .int), Cond.methodLink RX2 247 Lib.Math.min.name, Cond.static Lib.Math.min.name, Cond.initialized "java/lang/Math", Cond.code Lib.Math.min.name Lib.Math.min.code 2 (some .int), Cond.methodLink RX2 250 yX2_cornerY, Cond.instanceMethod yX2_cornerY, Cond.selects RX2 yX2_cornerY yX2_cornerY, Cond.code yX2_cornerY cX2_cornerY 3 (some .int), Cond.fieldLink RX2 10 "TriangleSheet" "points" "LTriangleSheet$Points;", Cond.methodLink RX2 107 yX1_cornerOf, Cond.instanceMethod yX1_cornerOf, Cond.selects RX1 yX1_cornerOf yX1_cornerOf, Cond.code yX1_cornerOf cX1_cornerOf 3 (some .int), Cond.fieldLink RX1 9 "TriangleSheet$Triangles" "corners" "[I", Cond.methodLink RX2 210 yX0_y, Cond.instanceMethod yX0_y, Cond.selects RX0 yX0_y yX0_y, Cond.initialized RX0]
def wsX2_painted_r3 : List Cond := [Cond.code yX0_y cX0_y 2 (some .int), Cond.fieldLink RX0 15 "TriangleSheet$Points" "ys" "[I", Cond.methodLink RX2 230 yX2_highest, Cond.instanceMethod yX2_highest, Cond.selects RX2 yX2_highest yX2_highest, Cond.code yX2_highest cX2_highest 2 (some .int), Cond.methodLink RX2 239 Lib.Math.max.name, Cond.static Lib.Math.max.name, Cond.code Lib.Math.max.name Lib.Math.max.code 2 (some .int), Cond.methodLink RX2 135 yX2_isRight, Cond.instanceMethod yX2_isRight, Cond.selects RX2 yX2_isRight yX2_isRight, Cond.code yX2_isRight cX2_isRight 2 (some .boolean), Cond.methodLink RX2 192 yX2_turnOf, Cond.instanceMethod yX2_turnOf, Cond.selects RX2 yX2_turnOf yX2_turnOf, Cond.code yX2_turnOf cX2_turnOf 2 (some .int), Cond.methodLink RX2 189 yX0_turnOf, Cond.instanceMethod yX0_turnOf, Cond.selects RX0 yX0_turnOf yX0_turnOf, Cond.code yX0_turnOf cX0_turnOf 4 (some .int), Cond.fieldLink RX0 9 "TriangleSheet$Points" "xs" "[I", Cond.methodLink RX0 30 yX0_turnAt, Cond.instanceMethod yX0_turnAt]
def wsX2_painted_r4 : List Cond := [Cond.selects RX0 yX0_turnAt yX0_turnAt, Cond.code yX0_turnAt cX0_turnAt 5 (some .int), Cond.methodLink RX2 233 yX2_rightmost, Cond.instanceMethod yX2_rightmost, Cond.selects RX2 yX2_rightmost yX2_rightmost, Cond.code yX2_rightmost cX2_rightmost 2 (some .int), Cond.methodLink RX2 244 yX2_cornerX, Cond.instanceMethod yX2_cornerX, Cond.selects RX2 yX2_cornerX yX2_cornerX, Cond.code yX2_cornerX cX2_cornerX 3 (some .int), Cond.methodLink RX2 213 yX0_x, Cond.instanceMethod yX0_x, Cond.selects RX0 yX0_x yX0_x, Cond.code yX0_x cX0_x 2 (some .int), Cond.methodLink RX2 236 yX2_leftmost, Cond.instanceMethod yX2_leftmost, Cond.selects RX2 yX2_leftmost yX2_leftmost, Cond.code yX2_leftmost cX2_leftmost 2 (some .int), Cond.methodLink RX2 201 yX2_sampleOf, Cond.static yX2_sampleOf, Cond.code yX2_sampleOf cX2_sampleOf 1 (some .int), Cond.methodLink RX2 204 yX2_liesInsideOrOnOwnEdges, Cond.instanceMethod yX2_liesInsideOrOnOwnEdges, Cond.selects RX2 yX2_liesInsideOrOnOwnEdges yX2_liesInsideOrOnOwnEdges]
def wsX2_painted_r5 : List Cond := [Cond.code yX2_liesInsideOrOnOwnEdges cX2_liesInsideOrOnOwnEdges 6 (some .boolean), Cond.methodLink RX2 198 yX2_turnBesideEdge, Cond.instanceMethod yX2_turnBesideEdge, Cond.selects RX2 yX2_turnBesideEdge yX2_turnBesideEdge, Cond.code yX2_turnBesideEdge cX2_turnBesideEdge 5 (some .int), Cond.methodLink RX2 194 yX0_turnAt, Cond.methodLink RX2 207 yX2_ownsEdge, Cond.instanceMethod yX2_ownsEdge, Cond.selects RX2 yX2_ownsEdge yX2_ownsEdge, Cond.code yX2_ownsEdge cX2_ownsEdge 5 (some .boolean), Cond.methodLink RX2 222 yJ6_bitCount_0f7a4, Cond.static yJ6_bitCount_0f7a4, Cond.initialized RJ6, Cond.code yJ6_bitCount_0f7a4 cJ6_bitCount_0f7a4 1 (some .int), Cond.constant RJ6 265 (1431655765), Cond.constant RJ6 266 (858993459), Cond.constant RJ6 267 (252645135), Cond.methodLink RX2 155 yX2_sumOfTurns, Cond.instanceMethod yX2_sumOfTurns, Cond.selects RX2 yX2_sumOfTurns yX2_sumOfTurns, Cond.code yX2_sumOfTurns cX2_sumOfTurns 4 (some .long)]
def wsX2_painted : List Cond := .code yX2_painted cX2_painted 2 (some .long) :: ((wsX2_painted_r1 ++ (wsX2_painted_r2 ++ (wsX2_painted_r3 ++ (wsX2_painted_r4 ++ wsX2_painted_r5)))) ++ wsX20 ++ wsX10 ++ wsX00)
def wsX2_locate_r1 : List Cond := [Cond.fieldLink RX2 19 "TriangleSheet" "triangles" "LTriangleSheet$Triangles;", Cond.methodLink RX2 38 yX2_isPlace, Cond.static yX2_isPlace, Cond.initialized RX2, Cond.code yX2_isPlace cX2_isPlace 2 (some .boolean), Cond.methodLink RX2 127 yX1_thereCount, Cond.instanceMethod yX1_thereCount, Cond.selects RX1 yX1_thereCount yX1_thereCount, Cond.initialized RX1, Cond.code yX1_thereCount cX1_thereCount 1 (some .int), Cond.fieldLink RX1 18 "TriangleSheet$Triangles" "thereCount" "I", Cond.methodLink RX2 131 yX1_numberAt, Cond.instanceMethod yX1_numberAt, Cond.selects RX1 yX1_numberAt yX1_numberAt, Cond.code yX1_numberAt cX1_numberAt 2 (some .int), Cond.fieldLink RX1 15 "TriangleSheet$Triangles" "there" "[I", Cond.methodLink RX2 135 yX2_isRight, Cond.instanceMethod yX2_isRight, Cond.selects RX2 yX2_isRight yX2_isRight, Cond.code yX2_isRight cX2_isRight 2 (some .boolean), Cond.methodLink RX2 192 yX2_turnOf, Cond.instanceMethod yX2_turnOf, Cond.selects RX2 yX2_turnOf yX2_turnOf, Cond.code yX2_turnOf cX2_turnOf 2 (some .int)]
def wsX2_locate_r2 : List Cond := [Cond.fieldLink RX2 10 "TriangleSheet" "points" "LTriangleSheet$Points;", Cond.methodLink RX2 107 yX1_cornerOf, Cond.instanceMethod yX1_cornerOf, Cond.selects RX1 yX1_cornerOf yX1_cornerOf, Cond.code yX1_cornerOf cX1_cornerOf 3 (some .int), Cond.fieldLink RX1 9 "TriangleSheet$Triangles" "corners" "[I", Cond.methodLink RX2 189 yX0_turnOf, Cond.instanceMethod yX0_turnOf, Cond.selects RX0 yX0_turnOf yX0_turnOf, Cond.initialized RX0, Cond.code yX0_turnOf cX0_turnOf 4 (some .int), Cond.fieldLink RX0 9 "TriangleSheet$Points" "xs" "[I", Cond.fieldLink RX0 15 "TriangleSheet$Points" "ys" "[I", Cond.methodLink RX0 30 yX0_turnAt, Cond.instanceMethod yX0_turnAt, Cond.selects RX0 yX0_turnAt yX0_turnAt, Cond.code yX0_turnAt cX0_turnAt 5 (some .int), Cond.methodLink RX2 161 yX2_hasPlace, Cond.instanceMethod yX2_hasPlace, Cond.selects RX2 yX2_hasPlace yX2_hasPlace, Cond.code yX2_hasPlace cX2_hasPlace 5 (some .boolean), Cond.methodLink RX2 198 yX2_turnBesideEdge, Cond.instanceMethod yX2_turnBesideEdge, Cond.selects RX2 yX2_turnBesideEdge yX2_turnBesideEdge]
def wsX2_locate_r3 : List Cond := [Cond.code yX2_turnBesideEdge cX2_turnBesideEdge 5 (some .int), Cond.methodLink RX2 194 yX0_turnAt]
def wsX2_locate : List Cond := .code yX2_locate cX2_locate 5 (some .int) :: ((wsX2_locate_r1 ++ (wsX2_locate_r2 ++ wsX2_locate_r3)) ++ wsX20 ++ wsX10 ++ wsX00)
def wsX2_beside_r1 : List Cond := [Cond.fieldLink RX2 19 "TriangleSheet" "triangles" "LTriangleSheet$Triangles;", Cond.methodLink RX2 113 yX2_isEdge, Cond.instanceMethod yX2_isEdge, Cond.selects RX2 yX2_isEdge yX2_isEdge, Cond.initialized RX2, Cond.code yX2_isEdge cX2_isEdge 3 (some .boolean), Cond.methodLink RX2 90 yX1_isThere, Cond.instanceMethod yX1_isThere, Cond.selects RX1 yX1_isThere yX1_isThere, Cond.initialized RX1, Cond.code yX1_isThere cX1_isThere 3 (some .boolean), Cond.fieldLink RX1 18 "TriangleSheet$Triangles" "thereCount" "I", Cond.fieldLink RX1 15 "TriangleSheet$Triangles" "there" "[I", Cond.methodLink RX2 164 yX1_neighbour, Cond.instanceMethod yX1_neighbour, Cond.selects RX1 yX1_neighbour yX1_neighbour, Cond.code yX1_neighbour cX1_neighbour 6 (some .int), Cond.methodLink RX1 29 yX1_cornerOf, Cond.instanceMethod yX1_cornerOf, Cond.selects RX1 yX1_cornerOf yX1_cornerOf, Cond.code yX1_cornerOf cX1_cornerOf 3 (some .int), Cond.fieldLink RX1 9 "TriangleSheet$Triangles" "corners" "[I", Cond.methodLink RX1 33 yX1_hasEdge, Cond.instanceMethod yX1_hasEdge]
def wsX2_beside_r2 : List Cond := [Cond.selects RX1 yX1_hasEdge yX1_hasEdge, Cond.code yX1_hasEdge cX1_hasEdge 7 (some .boolean)]
def wsX2_beside : List Cond := .code yX2_beside cX2_beside 3 (some .int) :: ((wsX2_beside_r1 ++ wsX2_beside_r2) ++ wsX20 ++ wsX10)
def wsX2_isGood_r1 : List Cond := [Cond.methodLink RX2 113 yX2_isEdge, Cond.instanceMethod yX2_isEdge, Cond.selects RX2 yX2_isEdge yX2_isEdge, Cond.initialized RX2, Cond.code yX2_isEdge cX2_isEdge 3 (some .boolean), Cond.fieldLink RX2 19 "TriangleSheet" "triangles" "LTriangleSheet$Triangles;", Cond.methodLink RX2 90 yX1_isThere, Cond.instanceMethod yX1_isThere, Cond.selects RX1 yX1_isThere yX1_isThere, Cond.initialized RX1, Cond.code yX1_isThere cX1_isThere 3 (some .boolean), Cond.fieldLink RX1 18 "TriangleSheet$Triangles" "thereCount" "I", Cond.fieldLink RX1 15 "TriangleSheet$Triangles" "there" "[I", Cond.methodLink RX2 167 yX2_isGoodEdge, Cond.instanceMethod yX2_isGoodEdge, Cond.selects RX2 yX2_isGoodEdge yX2_isGoodEdge, Cond.code yX2_isGoodEdge cX2_isGoodEdge 7 (some .boolean), Cond.fieldLink RX2 10 "TriangleSheet" "points" "LTriangleSheet$Points;", Cond.methodLink RX2 164 yX1_neighbour, Cond.instanceMethod yX1_neighbour, Cond.selects RX1 yX1_neighbour yX1_neighbour, Cond.code yX1_neighbour cX1_neighbour 6 (some .int), Cond.methodLink RX1 29 yX1_cornerOf, Cond.instanceMethod yX1_cornerOf]
def wsX2_isGood_r2 : List Cond := [Cond.selects RX1 yX1_cornerOf yX1_cornerOf, Cond.code yX1_cornerOf cX1_cornerOf 3 (some .int), Cond.fieldLink RX1 9 "TriangleSheet$Triangles" "corners" "[I", Cond.methodLink RX1 33 yX1_hasEdge, Cond.instanceMethod yX1_hasEdge, Cond.selects RX1 yX1_hasEdge yX1_hasEdge, Cond.code yX1_hasEdge cX1_hasEdge 7 (some .boolean), Cond.methodLink RX2 107 yX1_cornerOf, Cond.methodLink RX2 275 yX1_thirdCorner, Cond.instanceMethod yX1_thirdCorner, Cond.selects RX1 yX1_thirdCorner yX1_thirdCorner, Cond.code yX1_thirdCorner cX1_thirdCorner 4 (some .int), Cond.methodLink RX2 278 yX0_circleSide, Cond.instanceMethod yX0_circleSide, Cond.selects RX0 yX0_circleSide yX0_circleSide, Cond.initialized RX0, Cond.code yX0_circleSide cX0_circleSide 17 (some .long), Cond.fieldLink RX0 9 "TriangleSheet$Points" "xs" "[I", Cond.fieldLink RX0 15 "TriangleSheet$Points" "ys" "[I"]
def wsX2_isGood : List Cond := .code yX2_isGood cX2_isGood 3 (some .boolean) :: ((wsX2_isGood_r1 ++ wsX2_isGood_r2) ++ wsX20 ++ wsX10 ++ wsX00)
def wsX2_corner : List Cond := .code yX2_corner cX2_corner 3 (some .int) :: ([.fieldLink RX2 19 "TriangleSheet" "triangles" "LTriangleSheet$Triangles;", .methodLink RX2 113 yX2_isEdge, .instanceMethod yX2_isEdge, .selects RX2 yX2_isEdge yX2_isEdge, .initialized RX2, .code yX2_isEdge cX2_isEdge 3 (some .boolean), .methodLink RX2 90 yX1_isThere, .instanceMethod yX1_isThere, .selects RX1 yX1_isThere yX1_isThere, .initialized RX1, .code yX1_isThere cX1_isThere 3 (some .boolean), .fieldLink RX1 18 "TriangleSheet$Triangles" "thereCount" "I", .fieldLink RX1 15 "TriangleSheet$Triangles" "there" "[I", .methodLink RX2 107 yX1_cornerOf, .instanceMethod yX1_cornerOf, .selects RX1 yX1_cornerOf yX1_cornerOf, .code yX1_cornerOf cX1_cornerOf 3 (some .int), .fieldLink RX1 9 "TriangleSheet$Triangles" "corners" "[I"] ++ wsX20 ++ wsX10)
def wsX2_bitOf : List Cond := .code yX2_bitOf cX2_bitOf 1 (some .long) :: ([])
def wsJ13_bitCount_95d88 : List Cond := .code yJ13_bitCount_95d88 cJ13_bitCount_95d88 2 (some .int) :: ([.constantLong RJ13 314 (6148914691236517205), .constantLong RJ13 316 (3689348814741910323), .constantLong RJ13 318 (1085102592571150095)])
def wsX2_countCornerPoints_r1 : List Cond := [Cond.fieldLink RX2 19 "TriangleSheet" "triangles" "LTriangleSheet$Triangles;", Cond.methodLink RX2 127 yX1_thereCount, Cond.instanceMethod yX1_thereCount, Cond.selects RX1 yX1_thereCount yX1_thereCount, Cond.initialized RX1, Cond.code yX1_thereCount cX1_thereCount 1 (some .int), Cond.fieldLink RX1 18 "TriangleSheet$Triangles" "thereCount" "I", Cond.methodLink RX2 131 yX1_numberAt, Cond.instanceMethod yX1_numberAt, Cond.selects RX1 yX1_numberAt yX1_numberAt, Cond.code yX1_numberAt cX1_numberAt 2 (some .int), Cond.fieldLink RX1 15 "TriangleSheet$Triangles" "there" "[I", Cond.methodLink RX2 107 yX1_cornerOf, Cond.instanceMethod yX1_cornerOf, Cond.selects RX1 yX1_cornerOf yX1_cornerOf, Cond.code yX1_cornerOf cX1_cornerOf 3 (some .int), Cond.fieldLink RX1 9 "TriangleSheet$Triangles" "corners" "[I", Cond.methodLink RX2 282 yX2_bitOf, Cond.static yX2_bitOf, Cond.initialized RX2, Cond.code yX2_bitOf cX2_bitOf 1 (some .long), Cond.methodLink RX2 285 yJ13_bitCount_95d88, Cond.static yJ13_bitCount_95d88, Cond.initialized RJ13]
def wsX2_countCornerPoints_r2 : List Cond := [Cond.code yJ13_bitCount_95d88 cJ13_bitCount_95d88 2 (some .int), Cond.constantLong RJ13 314 (6148914691236517205), Cond.constantLong RJ13 316 (3689348814741910323), Cond.constantLong RJ13 318 (1085102592571150095)]
def wsX2_countCornerPoints : List Cond := .code yX2_countCornerPoints cX2_countCornerPoints 6 (some .int) :: ((wsX2_countCornerPoints_r1 ++ wsX2_countCornerPoints_r2) ++ wsX20 ++ wsX10)
def wsJ7_fill_d0a16 : List Cond := .code yJ7_fill_d0a16 cJ7_fill_d0a16 5 none :: ([])
def wsX2_countDifferentEdges_r1 : List Cond := [Cond.fieldLink RX2 23 "TriangleSheet" "joinedTo" "[J", Cond.fieldLink RX2 19 "TriangleSheet" "triangles" "LTriangleSheet$Triangles;", Cond.methodLink RX2 247 Lib.Math.min.name, Cond.static Lib.Math.min.name, Cond.initialized "java/lang/Math", Cond.code Lib.Math.min.name Lib.Math.min.code 2 (some .int), Cond.methodLink RX2 239 Lib.Math.max.name, Cond.static Lib.Math.max.name, Cond.code Lib.Math.max.name Lib.Math.max.code 2 (some .int), Cond.methodLink RX2 290 yJ7_fill_d0a16, Cond.static yJ7_fill_d0a16, Cond.initialized RJ7, Cond.code yJ7_fill_d0a16 cJ7_fill_d0a16 5 none, Cond.methodLink RX2 127 yX1_thereCount, Cond.instanceMethod yX1_thereCount, Cond.selects RX1 yX1_thereCount yX1_thereCount, Cond.initialized RX1, Cond.code yX1_thereCount cX1_thereCount 1 (some .int), Cond.fieldLink RX1 18 "TriangleSheet$Triangles" "thereCount" "I", Cond.methodLink RX2 131 yX1_numberAt, Cond.instanceMethod yX1_numberAt, Cond.selects RX1 yX1_numberAt yX1_numberAt, Cond.code yX1_numberAt cX1_numberAt 2 (some .int), Cond.fieldLink RX1 15 "TriangleSheet$Triangles" "there" "[I"]
def wsX2_countDifferentEdges_r2 : List Cond := [Cond.methodLink RX2 107 yX1_cornerOf, Cond.instanceMethod yX1_cornerOf, Cond.selects RX1 yX1_cornerOf yX1_cornerOf, Cond.code yX1_cornerOf cX1_cornerOf 3 (some .int), Cond.fieldLink RX1 9 "TriangleSheet$Triangles" "corners" "[I", Cond.methodLink RX2 282 yX2_bitOf, Cond.static yX2_bitOf, Cond.initialized RX2, Cond.code yX2_bitOf cX2_bitOf 1 (some .long), Cond.methodLink RX2 285 yJ13_bitCount_95d88, Cond.static yJ13_bitCount_95d88, Cond.initialized RJ13, Cond.code yJ13_bitCount_95d88 cJ13_bitCount_95d88 2 (some .int), Cond.constantLong RJ13 314 (6148914691236517205), Cond.constantLong RJ13 316 (3689348814741910323), Cond.constantLong RJ13 318 (1085102592571150095)]
def wsX2_countDifferentEdges : List Cond := .code yX2_countDifferentEdges cX2_countDifferentEdges 6 (some .int) :: ((wsX2_countDifferentEdges_r1 ++ wsX2_countDifferentEdges_r2) ++ wsX20 ++ wsX10)
def wsX2_countLonelyEdges_r1 : List Cond := [Cond.fieldLink RX2 19 "TriangleSheet" "triangles" "LTriangleSheet$Triangles;", Cond.methodLink RX2 127 yX1_thereCount, Cond.instanceMethod yX1_thereCount, Cond.selects RX1 yX1_thereCount yX1_thereCount, Cond.initialized RX1, Cond.code yX1_thereCount cX1_thereCount 1 (some .int), Cond.fieldLink RX1 18 "TriangleSheet$Triangles" "thereCount" "I", Cond.methodLink RX2 131 yX1_numberAt, Cond.instanceMethod yX1_numberAt, Cond.selects RX1 yX1_numberAt yX1_numberAt, Cond.code yX1_numberAt cX1_numberAt 2 (some .int), Cond.fieldLink RX1 15 "TriangleSheet$Triangles" "there" "[I", Cond.methodLink RX2 164 yX1_neighbour, Cond.instanceMethod yX1_neighbour, Cond.selects RX1 yX1_neighbour yX1_neighbour, Cond.code yX1_neighbour cX1_neighbour 6 (some .int), Cond.methodLink RX1 29 yX1_cornerOf, Cond.instanceMethod yX1_cornerOf, Cond.selects RX1 yX1_cornerOf yX1_cornerOf, Cond.code yX1_cornerOf cX1_cornerOf 3 (some .int), Cond.fieldLink RX1 9 "TriangleSheet$Triangles" "corners" "[I", Cond.methodLink RX1 33 yX1_hasEdge, Cond.instanceMethod yX1_hasEdge, Cond.selects RX1 yX1_hasEdge yX1_hasEdge]
def wsX2_countLonelyEdges_r2 : List Cond := [Cond.code yX1_hasEdge cX1_hasEdge 7 (some .boolean)]
def wsX2_countLonelyEdges : List Cond := .code yX2_countLonelyEdges cX2_countLonelyEdges 4 (some .int) :: ((wsX2_countLonelyEdges_r1 ++ wsX2_countLonelyEdges_r2) ++ wsX20 ++ wsX10)
def wsX2_renamePiece : List Cond := .code yX2_renamePiece cX2_renamePiece 5 none :: ([.fieldLink RX2 19 "TriangleSheet" "triangles" "LTriangleSheet$Triangles;", .fieldLink RX2 27 "TriangleSheet" "pieceOf" "[I", .methodLink RX2 127 yX1_thereCount, .instanceMethod yX1_thereCount, .selects RX1 yX1_thereCount yX1_thereCount, .initialized RX1, .code yX1_thereCount cX1_thereCount 1 (some .int), .fieldLink RX1 18 "TriangleSheet$Triangles" "thereCount" "I", .methodLink RX2 131 yX1_numberAt, .instanceMethod yX1_numberAt, .selects RX1 yX1_numberAt yX1_numberAt, .code yX1_numberAt cX1_numberAt 2 (some .int), .fieldLink RX1 15 "TriangleSheet$Triangles" "there" "[I"] ++ wsX20 ++ wsX10)
def wsX2_countPieces_r1 : List Cond := [Cond.fieldLink RX2 19 "TriangleSheet" "triangles" "LTriangleSheet$Triangles;", Cond.fieldLink RX2 27 "TriangleSheet" "pieceOf" "[I", Cond.methodLink RX2 127 yX1_thereCount, Cond.instanceMethod yX1_thereCount, Cond.selects RX1 yX1_thereCount yX1_thereCount, Cond.initialized RX1, Cond.code yX1_thereCount cX1_thereCount 1 (some .int), Cond.fieldLink RX1 18 "TriangleSheet$Triangles" "thereCount" "I", Cond.methodLink RX2 131 yX1_numberAt, Cond.instanceMethod yX1_numberAt, Cond.selects RX1 yX1_numberAt yX1_numberAt, Cond.code yX1_numberAt cX1_numberAt 2 (some .int), Cond.fieldLink RX1 15 "TriangleSheet$Triangles" "there" "[I", Cond.methodLink RX2 164 yX1_neighbour, Cond.instanceMethod yX1_neighbour, Cond.selects RX1 yX1_neighbour yX1_neighbour, Cond.code yX1_neighbour cX1_neighbour 6 (some .int), Cond.methodLink RX1 29 yX1_cornerOf, Cond.instanceMethod yX1_cornerOf, Cond.selects RX1 yX1_cornerOf yX1_cornerOf, Cond.code yX1_cornerOf cX1_cornerOf 3 (some .int), Cond.fieldLink RX1 9 "TriangleSheet$Triangles" "corners" "[I", Cond.methodLink RX1 33 yX1_hasEdge, Cond.instanceMethod yX1_hasEdge]
def wsX2_countPieces_r2 : List Cond := [Cond.selects RX1 yX1_hasEdge yX1_hasEdge, Cond.code yX1_hasEdge cX1_hasEdge 7 (some .boolean), Cond.methodLink RX2 296 yX2_renamePiece, Cond.instanceMethod yX2_renamePiece, Cond.selects RX2 yX2_renamePiece yX2_renamePiece, Cond.initialized RX2, Cond.code yX2_renamePiece cX2_renamePiece 5 none]
def wsX2_countPieces : List Cond := .code yX2_countPieces cX2_countPieces 6 (some .int) :: ((wsX2_countPieces_r1 ++ wsX2_countPieces_r2) ++ wsX20 ++ wsX10)
def wsX2_countBadEdges_r1 : List Cond := [Cond.fieldLink RX2 19 "TriangleSheet" "triangles" "LTriangleSheet$Triangles;", Cond.methodLink RX2 127 yX1_thereCount, Cond.instanceMethod yX1_thereCount, Cond.selects RX1 yX1_thereCount yX1_thereCount, Cond.initialized RX1, Cond.code yX1_thereCount cX1_thereCount 1 (some .int), Cond.fieldLink RX1 18 "TriangleSheet$Triangles" "thereCount" "I", Cond.methodLink RX2 131 yX1_numberAt, Cond.instanceMethod yX1_numberAt, Cond.selects RX1 yX1_numberAt yX1_numberAt, Cond.code yX1_numberAt cX1_numberAt 2 (some .int), Cond.fieldLink RX1 15 "TriangleSheet$Triangles" "there" "[I", Cond.methodLink RX2 167 yX2_isGoodEdge, Cond.instanceMethod yX2_isGoodEdge, Cond.selects RX2 yX2_isGoodEdge yX2_isGoodEdge, Cond.initialized RX2, Cond.code yX2_isGoodEdge cX2_isGoodEdge 7 (some .boolean), Cond.fieldLink RX2 10 "TriangleSheet" "points" "LTriangleSheet$Points;", Cond.methodLink RX2 164 yX1_neighbour, Cond.instanceMethod yX1_neighbour, Cond.selects RX1 yX1_neighbour yX1_neighbour, Cond.code yX1_neighbour cX1_neighbour 6 (some .int), Cond.methodLink RX1 29 yX1_cornerOf, Cond.instanceMethod yX1_cornerOf]
def wsX2_countBadEdges_r2 : List Cond := [Cond.selects RX1 yX1_cornerOf yX1_cornerOf, Cond.code yX1_cornerOf cX1_cornerOf 3 (some .int), Cond.fieldLink RX1 9 "TriangleSheet$Triangles" "corners" "[I", Cond.methodLink RX1 33 yX1_hasEdge, Cond.instanceMethod yX1_hasEdge, Cond.selects RX1 yX1_hasEdge yX1_hasEdge, Cond.code yX1_hasEdge cX1_hasEdge 7 (some .boolean), Cond.methodLink RX2 107 yX1_cornerOf, Cond.methodLink RX2 275 yX1_thirdCorner, Cond.instanceMethod yX1_thirdCorner, Cond.selects RX1 yX1_thirdCorner yX1_thirdCorner, Cond.code yX1_thirdCorner cX1_thirdCorner 4 (some .int), Cond.methodLink RX2 278 yX0_circleSide, Cond.instanceMethod yX0_circleSide, Cond.selects RX0 yX0_circleSide yX0_circleSide, Cond.initialized RX0, Cond.code yX0_circleSide cX0_circleSide 17 (some .long), Cond.fieldLink RX0 9 "TriangleSheet$Points" "xs" "[I", Cond.fieldLink RX0 15 "TriangleSheet$Points" "ys" "[I"]
def wsX2_countBadEdges : List Cond := .code yX2_countBadEdges cX2_countBadEdges 4 (some .int) :: ((wsX2_countBadEdges_r1 ++ wsX2_countBadEdges_r2) ++ wsX20 ++ wsX10 ++ wsX00)
def wsX2_count_r1 : List Cond := [Cond.fieldLink RX2 10 "TriangleSheet" "points" "LTriangleSheet$Points;", Cond.fieldLink RX2 19 "TriangleSheet" "triangles" "LTriangleSheet$Triangles;", Cond.methodLink RX2 170 yX0_came, Cond.instanceMethod yX0_came, Cond.selects RX0 yX0_came yX0_came, Cond.initialized RX0, Cond.code yX0_came cX0_came 1 (some .int), Cond.fieldLink RX0 18 "TriangleSheet$Points" "came" "I", Cond.methodLink RX2 127 yX1_thereCount, Cond.instanceMethod yX1_thereCount, Cond.selects RX1 yX1_thereCount yX1_thereCount, Cond.initialized RX1, Cond.code yX1_thereCount cX1_thereCount 1 (some .int), Cond.fieldLink RX1 18 "TriangleSheet$Triangles" "thereCount" "I", Cond.methodLink RX2 173 yX1_came, Cond.instanceMethod yX1_came, Cond.selects RX1 yX1_came yX1_came, Cond.code yX1_came cX1_came 1 (some .int), Cond.fieldLink RX1 22 "TriangleSheet$Triangles" "came" "I", Cond.methodLink RX2 174 yX2_countCornerPoints, Cond.instanceMethod yX2_countCornerPoints, Cond.selects RX2 yX2_countCornerPoints yX2_countCornerPoints, Cond.initialized RX2, Cond.code yX2_countCornerPoints cX2_countCornerPoints 6 (some .int)]
def wsX2_count_r2 : List Cond := [Cond.methodLink RX2 131 yX1_numberAt, Cond.instanceMethod yX1_numberAt, Cond.selects RX1 yX1_numberAt yX1_numberAt, Cond.code yX1_numberAt cX1_numberAt 2 (some .int), Cond.fieldLink RX1 15 "TriangleSheet$Triangles" "there" "[I", Cond.methodLink RX2 107 yX1_cornerOf, Cond.instanceMethod yX1_cornerOf, Cond.selects RX1 yX1_cornerOf yX1_cornerOf, Cond.code yX1_cornerOf cX1_cornerOf 3 (some .int), Cond.fieldLink RX1 9 "TriangleSheet$Triangles" "corners" "[I", Cond.methodLink RX2 282 yX2_bitOf, Cond.static yX2_bitOf, Cond.code yX2_bitOf cX2_bitOf 1 (some .long), Cond.methodLink RX2 285 yJ13_bitCount_95d88, Cond.static yJ13_bitCount_95d88, Cond.initialized RJ13, Cond.code yJ13_bitCount_95d88 cJ13_bitCount_95d88 2 (some .int), Cond.constantLong RJ13 314 (6148914691236517205), Cond.constantLong RJ13 316 (3689348814741910323), Cond.constantLong RJ13 318 (1085102592571150095), Cond.methodLink RX2 177 yX2_countDifferentEdges, Cond.instanceMethod yX2_countDifferentEdges, Cond.selects RX2 yX2_countDifferentEdges yX2_countDifferentEdges, Cond.code yX2_countDifferentEdges cX2_countDifferentEdges 6 (some .int)]
def wsX2_count_r3 : List Cond := [Cond.fieldLink RX2 23 "TriangleSheet" "joinedTo" "[J", Cond.methodLink RX2 247 Lib.Math.min.name, Cond.static Lib.Math.min.name, Cond.initialized "java/lang/Math", Cond.code Lib.Math.min.name Lib.Math.min.code 2 (some .int), Cond.methodLink RX2 239 Lib.Math.max.name, Cond.static Lib.Math.max.name, Cond.code Lib.Math.max.name Lib.Math.max.code 2 (some .int), Cond.methodLink RX2 290 yJ7_fill_d0a16, Cond.static yJ7_fill_d0a16, Cond.initialized RJ7, Cond.code yJ7_fill_d0a16 cJ7_fill_d0a16 5 none, Cond.methodLink RX2 180 yX2_countLonelyEdges, Cond.instanceMethod yX2_countLonelyEdges, Cond.selects RX2 yX2_countLonelyEdges yX2_countLonelyEdges, Cond.code yX2_countLonelyEdges cX2_countLonelyEdges 4 (some .int), Cond.methodLink RX2 164 yX1_neighbour, Cond.instanceMethod yX1_neighbour, Cond.selects RX1 yX1_neighbour yX1_neighbour, Cond.code yX1_neighbour cX1_neighbour 6 (some .int), Cond.methodLink RX1 29 yX1_cornerOf, Cond.methodLink RX1 33 yX1_hasEdge, Cond.instanceMethod yX1_hasEdge, Cond.selects RX1 yX1_hasEdge yX1_hasEdge]
def wsX2_count_r4 : List Cond := [Cond.code yX1_hasEdge cX1_hasEdge 7 (some .boolean), Cond.methodLink RX2 183 yX2_countPieces, Cond.instanceMethod yX2_countPieces, Cond.selects RX2 yX2_countPieces yX2_countPieces, Cond.code yX2_countPieces cX2_countPieces 6 (some .int), Cond.fieldLink RX2 27 "TriangleSheet" "pieceOf" "[I", Cond.methodLink RX2 296 yX2_renamePiece, Cond.instanceMethod yX2_renamePiece, Cond.selects RX2 yX2_renamePiece yX2_renamePiece, Cond.code yX2_renamePiece cX2_renamePiece 5 none, Cond.methodLink RX2 186 yX2_countBadEdges, Cond.instanceMethod yX2_countBadEdges, Cond.selects RX2 yX2_countBadEdges yX2_countBadEdges, Cond.code yX2_countBadEdges cX2_countBadEdges 4 (some .int), Cond.methodLink RX2 167 yX2_isGoodEdge, Cond.instanceMethod yX2_isGoodEdge, Cond.selects RX2 yX2_isGoodEdge yX2_isGoodEdge, Cond.code yX2_isGoodEdge cX2_isGoodEdge 7 (some .boolean), Cond.methodLink RX2 275 yX1_thirdCorner, Cond.instanceMethod yX1_thirdCorner, Cond.selects RX1 yX1_thirdCorner yX1_thirdCorner, Cond.code yX1_thirdCorner cX1_thirdCorner 4 (some .int), Cond.methodLink RX2 278 yX0_circleSide, Cond.instanceMethod yX0_circleSide]
def wsX2_count_r5 : List Cond := [Cond.selects RX0 yX0_circleSide yX0_circleSide, Cond.code yX0_circleSide cX0_circleSide 17 (some .long), Cond.fieldLink RX0 9 "TriangleSheet$Points" "xs" "[I", Cond.fieldLink RX0 15 "TriangleSheet$Points" "ys" "[I"]
def wsX2_count : List Cond := .code yX2_count cX2_count 2 (some .int) :: ((wsX2_count_r1 ++ (wsX2_count_r2 ++ (wsX2_count_r3 ++ (wsX2_count_r4 ++ wsX2_count_r5)))) ++ wsX20 ++ wsX00 ++ wsX10)
def wsX3_init : List Cond := .code yX3_init cX3_init 1 none :: ([.methodLink RX3 1 objectInit, .instanceMethod objectInit, .code objectInit ⟨#[0xb1]⟩ 1 none, .arrayClass .int, .fieldLink RX3 7 "TriangleSheetModel" "px" "[I", .fieldLink RX3 13 "TriangleSheetModel" "py" "[I", .arrayClass .boolean, .fieldLink RX3 16 "TriangleSheetModel" "is" "[Z", .fieldLink RX3 20 "TriangleSheetModel" "corners" "[I", .fieldLink RX3 23 "TriangleSheetModel" "first" "I", .fieldLink RX3 27 "TriangleSheetModel" "second" "I", .fieldLink RX3 30 "TriangleSheetModel" "marks" "[I"] ++ wsX30)
def wsX3_thrown : List Cond := .code yX3_thrown cX3_thrown 1 (some .int) :: ([.fieldLink RX3 33 "TriangleSheetModel" "thrown" "I"] ++ wsX30)
def wsX3_in : List Cond := .code yX3_in cX3_in 2 (some .boolean) :: ([])
def wsX3_turnOf : List Cond := .code yX3_turnOf cX3_turnOf 12 (some .long) :: ([])
def wsX3_turnOfPoints : List Cond := .code yX3_turnOfPoints cX3_turnOfPoints 4 (some .long) :: ([.fieldLink RX3 7 "TriangleSheetModel" "px" "[I", .fieldLink RX3 13 "TriangleSheetModel" "py" "[I", .methodLink RX3 36 yX3_turnOf, .static yX3_turnOf, .initialized RX3, .code yX3_turnOf cX3_turnOf 12 (some .long)] ++ wsX30)
def wsX3_pointAt : List Cond := .code yX3_pointAt cX3_pointAt 4 (some .int) :: ([.fieldLink RX3 40 "TriangleSheetModel" "points" "I", .fieldLink RX3 7 "TriangleSheetModel" "px" "[I", .fieldLink RX3 13 "TriangleSheetModel" "py" "[I"] ++ wsX30)
def wsX3_at : List Cond := .code yX3_at cX3_at 3 (some .int) :: ([.fieldLink RX3 20 "TriangleSheetModel" "corners" "[I"] ++ wsX30)
def wsX3_isThere : List Cond := .code yX3_isThere cX3_isThere 2 (some .boolean) :: ([.fieldLink RX3 43 "TriangleSheetModel" "came" "I", .fieldLink RX3 16 "TriangleSheetModel" "is" "[Z", .methodLink RX3 46 yX3_in, .static yX3_in, .initialized RX3, .code yX3_in cX3_in 2 (some .boolean)] ++ wsX30)
def wsX3_twice : List Cond := .code yX3_twice cX3_twice 2 (some .long) :: ([.methodLink RX3 50 yX3_at, .instanceMethod yX3_at, .selects RX3 yX3_at yX3_at, .initialized RX3, .code yX3_at cX3_at 3 (some .int), .fieldLink RX3 20 "TriangleSheetModel" "corners" "[I", .methodLink RX3 54 yX3_turnOfPoints, .instanceMethod yX3_turnOfPoints, .selects RX3 yX3_turnOfPoints yX3_turnOfPoints, .code yX3_turnOfPoints cX3_turnOfPoints 4 (some .long), .fieldLink RX3 7 "TriangleSheetModel" "px" "[I", .fieldLink RX3 13 "TriangleSheetModel" "py" "[I", .methodLink RX3 36 yX3_turnOf, .static yX3_turnOf, .code yX3_turnOf cX3_turnOf 12 (some .long)] ++ wsX30)
def wsX3_isRight : List Cond := .code yX3_isRight cX3_isRight 2 (some .boolean) :: ([.methodLink RX3 58 yX3_twice, .instanceMethod yX3_twice, .selects RX3 yX3_twice yX3_twice, .initialized RX3, .code yX3_twice cX3_twice 2 (some .long), .methodLink RX3 50 yX3_at, .instanceMethod yX3_at, .selects RX3 yX3_at yX3_at, .code yX3_at cX3_at 3 (some .int), .fieldLink RX3 20 "TriangleSheetModel" "corners" "[I", .methodLink RX3 54 yX3_turnOfPoints, .instanceMethod yX3_turnOfPoints, .selects RX3 yX3_turnOfPoints yX3_turnOfPoints, .code yX3_turnOfPoints cX3_turnOfPoints 4 (some .long), .fieldLink RX3 7 "TriangleSheetModel" "px" "[I", .fieldLink RX3 13 "TriangleSheetModel" "py" "[I", .methodLink RX3 36 yX3_turnOf, .static yX3_turnOf, .code yX3_turnOf cX3_turnOf 12 (some .long)] ++ wsX30)
def wsX3_hasPlace : List Cond := .code yX3_hasPlace cX3_hasPlace 8 (some .boolean) :: ([.fieldLink RX3 7 "TriangleSheetModel" "px" "[I", .fieldLink RX3 13 "TriangleSheetModel" "py" "[I", .methodLink RX3 50 yX3_at, .instanceMethod yX3_at, .selects RX3 yX3_at yX3_at, .initialized RX3, .code yX3_at cX3_at 3 (some .int), .fieldLink RX3 20 "TriangleSheetModel" "corners" "[I", .methodLink RX3 36 yX3_turnOf, .static yX3_turnOf, .code yX3_turnOf cX3_turnOf 12 (some .long)] ++ wsX30)
def wsX3_isCorner : List Cond := .code yX3_isCorner cX3_isCorner 3 (some .boolean) :: ([.methodLink RX3 50 yX3_at, .instanceMethod yX3_at, .selects RX3 yX3_at yX3_at, .initialized RX3, .code yX3_at cX3_at 3 (some .int), .fieldLink RX3 20 "TriangleSheetModel" "corners" "[I"] ++ wsX30)
def wsX3_sign : List Cond := .code yX3_sign cX3_sign 2 (some .int) :: ([])
def wsX3_isBetween : List Cond := .code yX3_isBetween cX3_isBetween 8 (some .boolean) :: ([.fieldLink RX3 7 "TriangleSheetModel" "px" "[I", .fieldLink RX3 13 "TriangleSheetModel" "py" "[I", .methodLink RX3 54 yX3_turnOfPoints, .instanceMethod yX3_turnOfPoints, .selects RX3 yX3_turnOfPoints yX3_turnOfPoints, .initialized RX3, .code yX3_turnOfPoints cX3_turnOfPoints 4 (some .long), .methodLink RX3 36 yX3_turnOf, .static yX3_turnOf, .code yX3_turnOf cX3_turnOf 12 (some .long)] ++ wsX30)
def wsX3_isOdd : List Cond := .code yX3_isOdd cX3_isOdd 6 (some .boolean) :: ([.methodLink RX3 62 yX3_isBetween, .instanceMethod yX3_isBetween, .selects RX3 yX3_isBetween yX3_isBetween, .initialized RX3, .code yX3_isBetween cX3_isBetween 8 (some .boolean), .fieldLink RX3 7 "TriangleSheetModel" "px" "[I", .fieldLink RX3 13 "TriangleSheetModel" "py" "[I", .methodLink RX3 54 yX3_turnOfPoints, .instanceMethod yX3_turnOfPoints, .selects RX3 yX3_turnOfPoints yX3_turnOfPoints, .code yX3_turnOfPoints cX3_turnOfPoints 4 (some .long), .methodLink RX3 36 yX3_turnOf, .static yX3_turnOf, .code yX3_turnOf cX3_turnOf 12 (some .long), .methodLink RX3 66 yX3_sign, .static yX3_sign, .code yX3_sign cX3_sign 2 (some .int)] ++ wsX30)
def wsX3_isTidy_r1 : List Cond := [Cond.fieldLink RX3 7 "TriangleSheetModel" "px" "[I", Cond.fieldLink RX3 13 "TriangleSheetModel" "py" "[I", Cond.methodLink RX3 50 yX3_at, Cond.instanceMethod yX3_at, Cond.selects RX3 yX3_at yX3_at, Cond.initialized RX3, Cond.code yX3_at cX3_at 3 (some .int), Cond.fieldLink RX3 20 "TriangleSheetModel" "corners" "[I", Cond.methodLink RX3 70 yX3_isCorner, Cond.instanceMethod yX3_isCorner, Cond.selects RX3 yX3_isCorner yX3_isCorner, Cond.code yX3_isCorner cX3_isCorner 3 (some .boolean), Cond.methodLink RX3 73 yX3_hasPlace, Cond.instanceMethod yX3_hasPlace, Cond.selects RX3 yX3_hasPlace yX3_hasPlace, Cond.code yX3_hasPlace cX3_hasPlace 8 (some .boolean), Cond.methodLink RX3 36 yX3_turnOf, Cond.static yX3_turnOf, Cond.code yX3_turnOf cX3_turnOf 12 (some .long), Cond.methodLink RX3 77 yX3_isOdd, Cond.instanceMethod yX3_isOdd, Cond.selects RX3 yX3_isOdd yX3_isOdd, Cond.code yX3_isOdd cX3_isOdd 6 (some .boolean), Cond.methodLink RX3 62 yX3_isBetween]
def wsX3_isTidy_r2 : List Cond := [Cond.instanceMethod yX3_isBetween, Cond.selects RX3 yX3_isBetween yX3_isBetween, Cond.code yX3_isBetween cX3_isBetween 8 (some .boolean), Cond.methodLink RX3 54 yX3_turnOfPoints, Cond.instanceMethod yX3_turnOfPoints, Cond.selects RX3 yX3_turnOfPoints yX3_turnOfPoints, Cond.code yX3_turnOfPoints cX3_turnOfPoints 4 (some .long), Cond.methodLink RX3 66 yX3_sign, Cond.static yX3_sign, Cond.code yX3_sign cX3_sign 2 (some .int)]
def wsX3_isTidy : List Cond := .code yX3_isTidy cX3_isTidy 6 (some .boolean) :: ((wsX3_isTidy_r1 ++ wsX3_isTidy_r2) ++ wsX30)
def wsX3_isCovered_r1 : List Cond := [Cond.fieldLink RX3 7 "TriangleSheetModel" "px" "[I", Cond.fieldLink RX3 13 "TriangleSheetModel" "py" "[I", Cond.methodLink RX3 81 yX3_isThere, Cond.instanceMethod yX3_isThere, Cond.selects RX3 yX3_isThere yX3_isThere, Cond.initialized RX3, Cond.code yX3_isThere cX3_isThere 2 (some .boolean), Cond.fieldLink RX3 43 "TriangleSheetModel" "came" "I", Cond.fieldLink RX3 16 "TriangleSheetModel" "is" "[Z", Cond.methodLink RX3 46 yX3_in, Cond.static yX3_in, Cond.code yX3_in cX3_in 2 (some .boolean), Cond.methodLink RX3 85 yX3_isRight, Cond.instanceMethod yX3_isRight, Cond.selects RX3 yX3_isRight yX3_isRight, Cond.code yX3_isRight cX3_isRight 2 (some .boolean), Cond.methodLink RX3 58 yX3_twice, Cond.instanceMethod yX3_twice, Cond.selects RX3 yX3_twice yX3_twice, Cond.code yX3_twice cX3_twice 2 (some .long), Cond.methodLink RX3 50 yX3_at, Cond.instanceMethod yX3_at, Cond.selects RX3 yX3_at yX3_at, Cond.code yX3_at cX3_at 3 (some .int)]
def wsX3_isCovered_r2 : List Cond := [Cond.fieldLink RX3 20 "TriangleSheetModel" "corners" "[I", Cond.methodLink RX3 54 yX3_turnOfPoints, Cond.instanceMethod yX3_turnOfPoints, Cond.selects RX3 yX3_turnOfPoints yX3_turnOfPoints, Cond.code yX3_turnOfPoints cX3_turnOfPoints 4 (some .long), Cond.methodLink RX3 36 yX3_turnOf, Cond.static yX3_turnOf, Cond.code yX3_turnOf cX3_turnOf 12 (some .long)]
def wsX3_isCovered : List Cond := .code yX3_isCovered cX3_isCovered 10 (some .boolean) :: ((wsX3_isCovered_r1 ++ wsX3_isCovered_r2) ++ wsX30)
def wsX3_howMany_r1 : List Cond := [Cond.fieldLink RX3 43 "TriangleSheetModel" "came" "I", Cond.methodLink RX3 88 yX3_isCovered, Cond.instanceMethod yX3_isCovered, Cond.selects RX3 yX3_isCovered yX3_isCovered, Cond.initialized RX3, Cond.code yX3_isCovered cX3_isCovered 10 (some .boolean), Cond.fieldLink RX3 7 "TriangleSheetModel" "px" "[I", Cond.fieldLink RX3 13 "TriangleSheetModel" "py" "[I", Cond.methodLink RX3 81 yX3_isThere, Cond.instanceMethod yX3_isThere, Cond.selects RX3 yX3_isThere yX3_isThere, Cond.code yX3_isThere cX3_isThere 2 (some .boolean), Cond.fieldLink RX3 16 "TriangleSheetModel" "is" "[Z", Cond.methodLink RX3 46 yX3_in, Cond.static yX3_in, Cond.code yX3_in cX3_in 2 (some .boolean), Cond.methodLink RX3 85 yX3_isRight, Cond.instanceMethod yX3_isRight, Cond.selects RX3 yX3_isRight yX3_isRight, Cond.code yX3_isRight cX3_isRight 2 (some .boolean), Cond.methodLink RX3 58 yX3_twice, Cond.instanceMethod yX3_twice, Cond.selects RX3 yX3_twice yX3_twice, Cond.code yX3_twice cX3_twice 2 (some .long)]
def wsX3_howMany_r2 : List Cond := [Cond.methodLink RX3 50 yX3_at, Cond.instanceMethod yX3_at, Cond.selects RX3 yX3_at yX3_at, Cond.code yX3_at cX3_at 3 (some .int), Cond.fieldLink RX3 20 "TriangleSheetModel" "corners" "[I", Cond.methodLink RX3 54 yX3_turnOfPoints, Cond.instanceMethod yX3_turnOfPoints, Cond.selects RX3 yX3_turnOfPoints yX3_turnOfPoints, Cond.code yX3_turnOfPoints cX3_turnOfPoints 4 (some .long), Cond.methodLink RX3 36 yX3_turnOf, Cond.static yX3_turnOf, Cond.code yX3_turnOf cX3_turnOf 12 (some .long)]
def wsX3_howMany : List Cond := .code yX3_howMany cX3_howMany 5 (some .int) :: ((wsX3_howMany_r1 ++ wsX3_howMany_r2) ++ wsX30)
def wsX3_neighbour : List Cond := .code yX3_neighbour cX3_neighbour 5 (some .int) :: ([.fieldLink RX3 43 "TriangleSheetModel" "came" "I", .fieldLink RX3 16 "TriangleSheetModel" "is" "[Z", .methodLink RX3 50 yX3_at, .instanceMethod yX3_at, .selects RX3 yX3_at yX3_at, .initialized RX3, .code yX3_at cX3_at 3 (some .int), .fieldLink RX3 20 "TriangleSheetModel" "corners" "[I"] ++ wsX30)
def wsX3_beyond : List Cond := .code yX3_beyond cX3_beyond 5 (some .int) :: ([.methodLink RX3 50 yX3_at, .instanceMethod yX3_at, .selects RX3 yX3_at yX3_at, .initialized RX3, .code yX3_at cX3_at 3 (some .int), .fieldLink RX3 20 "TriangleSheetModel" "corners" "[I"] ++ wsX30)
def wsX3_determinant : List Cond := .code yX3_determinant cX3_determinant 18 (some .long) :: ([])
def wsX3_good : List Cond := .code yX3_good cX3_good 17 (some .boolean) :: ([.fieldLink RX3 7 "TriangleSheetModel" "px" "[I", .fieldLink RX3 13 "TriangleSheetModel" "py" "[I", .methodLink RX3 91 yX3_neighbour, .instanceMethod yX3_neighbour, .selects RX3 yX3_neighbour yX3_neighbour, .initialized RX3, .code yX3_neighbour cX3_neighbour 5 (some .int), .fieldLink RX3 43 "TriangleSheetModel" "came" "I", .fieldLink RX3 16 "TriangleSheetModel" "is" "[Z", .methodLink RX3 50 yX3_at, .instanceMethod yX3_at, .selects RX3 yX3_at yX3_at, .code yX3_at cX3_at 3 (some .int), .fieldLink RX3 20 "TriangleSheetModel" "corners" "[I", .methodLink RX3 94 yX3_beyond, .instanceMethod yX3_beyond, .selects RX3 yX3_beyond yX3_beyond, .code yX3_beyond cX3_beyond 5 (some .int), .methodLink RX3 98 yX3_determinant, .static yX3_determinant, .code yX3_determinant cX3_determinant 18 (some .long)] ++ wsX30)
def wsX3_set : List Cond := .code yX3_set cX3_set 5 none :: ([.fieldLink RX3 20 "TriangleSheetModel" "corners" "[I"] ++ wsX30)
def wsX3_turned_r1 : List Cond := [Cond.methodLink RX3 91 yX3_neighbour, Cond.instanceMethod yX3_neighbour, Cond.selects RX3 yX3_neighbour yX3_neighbour, Cond.initialized RX3, Cond.code yX3_neighbour cX3_neighbour 5 (some .int), Cond.fieldLink RX3 43 "TriangleSheetModel" "came" "I", Cond.fieldLink RX3 16 "TriangleSheetModel" "is" "[Z", Cond.methodLink RX3 50 yX3_at, Cond.instanceMethod yX3_at, Cond.selects RX3 yX3_at yX3_at, Cond.code yX3_at cX3_at 3 (some .int), Cond.fieldLink RX3 20 "TriangleSheetModel" "corners" "[I", Cond.methodLink RX3 94 yX3_beyond, Cond.instanceMethod yX3_beyond, Cond.selects RX3 yX3_beyond yX3_beyond, Cond.code yX3_beyond cX3_beyond 5 (some .int), Cond.methodLink RX3 54 yX3_turnOfPoints, Cond.instanceMethod yX3_turnOfPoints, Cond.selects RX3 yX3_turnOfPoints yX3_turnOfPoints, Cond.code yX3_turnOfPoints cX3_turnOfPoints 4 (some .long), Cond.fieldLink RX3 7 "TriangleSheetModel" "px" "[I", Cond.fieldLink RX3 13 "TriangleSheetModel" "py" "[I", Cond.methodLink RX3 36 yX3_turnOf, Cond.static yX3_turnOf]
def wsX3_turned_r2 : List Cond := [Cond.code yX3_turnOf cX3_turnOf 12 (some .long), Cond.methodLink RX3 102 yX3_set, Cond.instanceMethod yX3_set, Cond.selects RX3 yX3_set yX3_set, Cond.code yX3_set cX3_set 5 none]
def wsX3_turned : List Cond := .code yX3_turned cX3_turned 8 (some .boolean) :: ((wsX3_turned_r1 ++ wsX3_turned_r2) ++ wsX30)
def wsX3_isPlace : List Cond := .code yX3_isPlace cX3_isPlace 2 (some .boolean) :: ([.methodLink RX3 46 yX3_in, .static yX3_in, .initialized RX3, .code yX3_in cX3_in 2 (some .boolean)])
def wsX3_point : List Cond := .code yX3_point cX3_point 3 (some .int) :: ([.fieldLink RX3 40 "TriangleSheetModel" "points" "I", .fieldLink RX3 33 "TriangleSheetModel" "thrown" "I", .fieldLink RX3 7 "TriangleSheetModel" "px" "[I", .fieldLink RX3 13 "TriangleSheetModel" "py" "[I", .methodLink RX3 106 yX3_isPlace, .static yX3_isPlace, .initialized RX3, .code yX3_isPlace cX3_isPlace 2 (some .boolean), .methodLink RX3 46 yX3_in, .static yX3_in, .code yX3_in cX3_in 2 (some .boolean), .methodLink RX3 109 yX3_pointAt, .instanceMethod yX3_pointAt, .selects RX3 yX3_pointAt yX3_pointAt, .code yX3_pointAt cX3_pointAt 4 (some .int)] ++ wsX30)
def wsX3_move : List Cond := .code yX3_move cX3_move 5 none :: ([.fieldLink RX3 40 "TriangleSheetModel" "points" "I", .fieldLink RX3 33 "TriangleSheetModel" "thrown" "I", .fieldLink RX3 7 "TriangleSheetModel" "px" "[I", .fieldLink RX3 13 "TriangleSheetModel" "py" "[I", .methodLink RX3 106 yX3_isPlace, .static yX3_isPlace, .initialized RX3, .code yX3_isPlace cX3_isPlace 2 (some .boolean), .methodLink RX3 46 yX3_in, .static yX3_in, .code yX3_in cX3_in 2 (some .boolean), .methodLink RX3 109 yX3_pointAt, .instanceMethod yX3_pointAt, .selects RX3 yX3_pointAt yX3_pointAt, .code yX3_pointAt cX3_pointAt 4 (some .int)] ++ wsX30)
def wsX3_add : List Cond := .code yX3_add cX3_add 4 (some .int) :: ([.fieldLink RX3 43 "TriangleSheetModel" "came" "I", .fieldLink RX3 16 "TriangleSheetModel" "is" "[Z", .fieldLink RX3 112 "TriangleSheetModel" "there" "I", .methodLink RX3 102 yX3_set, .instanceMethod yX3_set, .selects RX3 yX3_set yX3_set, .initialized RX3, .code yX3_set cX3_set 5 none, .fieldLink RX3 20 "TriangleSheetModel" "corners" "[I"] ++ wsX30)
def wsX3_triangle : List Cond := .code yX3_triangle cX3_triangle 4 (some .int) :: ([.fieldLink RX3 40 "TriangleSheetModel" "points" "I", .fieldLink RX3 112 "TriangleSheetModel" "there" "I", .fieldLink RX3 43 "TriangleSheetModel" "came" "I", .fieldLink RX3 33 "TriangleSheetModel" "thrown" "I", .methodLink RX3 46 yX3_in, .static yX3_in, .initialized RX3, .code yX3_in cX3_in 2 (some .boolean), .methodLink RX3 115 yX3_add, .instanceMethod yX3_add, .selects RX3 yX3_add yX3_add, .code yX3_add cX3_add 4 (some .int), .fieldLink RX3 16 "TriangleSheetModel" "is" "[Z", .methodLink RX3 102 yX3_set, .instanceMethod yX3_set, .selects RX3 yX3_set yX3_set, .code yX3_set cX3_set 5 none, .fieldLink RX3 20 "TriangleSheetModel" "corners" "[I"] ++ wsX30)
def wsX3_take : List Cond := .code yX3_take cX3_take 2 none :: ([.fieldLink RX3 33 "TriangleSheetModel" "thrown" "I", .fieldLink RX3 16 "TriangleSheetModel" "is" "[Z", .fieldLink RX3 112 "TriangleSheetModel" "there" "I", .methodLink RX3 81 yX3_isThere, .instanceMethod yX3_isThere, .selects RX3 yX3_isThere yX3_isThere, .initialized RX3, .code yX3_isThere cX3_isThere 2 (some .boolean), .fieldLink RX3 43 "TriangleSheetModel" "came" "I", .methodLink RX3 46 yX3_in, .static yX3_in, .code yX3_in cX3_in 2 (some .boolean)] ++ wsX30)
def wsX3_part_r1 : List Cond := [Cond.fieldLink RX3 33 "TriangleSheetModel" "thrown" "I", Cond.fieldLink RX3 7 "TriangleSheetModel" "px" "[I", Cond.fieldLink RX3 13 "TriangleSheetModel" "py" "[I", Cond.fieldLink RX3 40 "TriangleSheetModel" "points" "I", Cond.fieldLink RX3 112 "TriangleSheetModel" "there" "I", Cond.fieldLink RX3 43 "TriangleSheetModel" "came" "I", Cond.methodLink RX3 81 yX3_isThere, Cond.instanceMethod yX3_isThere, Cond.selects RX3 yX3_isThere yX3_isThere, Cond.initialized RX3, Cond.code yX3_isThere cX3_isThere 2 (some .boolean), Cond.fieldLink RX3 16 "TriangleSheetModel" "is" "[Z", Cond.methodLink RX3 46 yX3_in, Cond.static yX3_in, Cond.code yX3_in cX3_in 2 (some .boolean), Cond.methodLink RX3 106 yX3_isPlace, Cond.static yX3_isPlace, Cond.code yX3_isPlace cX3_isPlace 2 (some .boolean), Cond.methodLink RX3 50 yX3_at, Cond.instanceMethod yX3_at, Cond.selects RX3 yX3_at yX3_at, Cond.code yX3_at cX3_at 3 (some .int), Cond.fieldLink RX3 20 "TriangleSheetModel" "corners" "[I", Cond.methodLink RX3 36 yX3_turnOf]
def wsX3_part_r2 : List Cond := [Cond.static yX3_turnOf, Cond.code yX3_turnOf cX3_turnOf 12 (some .long), Cond.methodLink RX3 109 yX3_pointAt, Cond.instanceMethod yX3_pointAt, Cond.selects RX3 yX3_pointAt yX3_pointAt, Cond.code yX3_pointAt cX3_pointAt 4 (some .int), Cond.methodLink RX3 118 yX3_point, Cond.instanceMethod yX3_point, Cond.selects RX3 yX3_point yX3_point, Cond.code yX3_point cX3_point 3 (some .int), Cond.methodLink RX3 102 yX3_set, Cond.instanceMethod yX3_set, Cond.selects RX3 yX3_set yX3_set, Cond.code yX3_set cX3_set 5 none, Cond.methodLink RX3 115 yX3_add, Cond.instanceMethod yX3_add, Cond.selects RX3 yX3_add yX3_add, Cond.code yX3_add cX3_add 4 (some .int)]
def wsX3_part : List Cond := .code yX3_part cX3_part 12 (some .int) :: ((wsX3_part_r1 ++ wsX3_part_r2) ++ wsX30)
def wsX3_turn_r1 : List Cond := [Cond.fieldLink RX3 33 "TriangleSheetModel" "thrown" "I", Cond.methodLink RX3 81 yX3_isThere, Cond.instanceMethod yX3_isThere, Cond.selects RX3 yX3_isThere yX3_isThere, Cond.initialized RX3, Cond.code yX3_isThere cX3_isThere 2 (some .boolean), Cond.fieldLink RX3 43 "TriangleSheetModel" "came" "I", Cond.fieldLink RX3 16 "TriangleSheetModel" "is" "[Z", Cond.methodLink RX3 46 yX3_in, Cond.static yX3_in, Cond.code yX3_in cX3_in 2 (some .boolean), Cond.methodLink RX3 121 yX3_turned, Cond.instanceMethod yX3_turned, Cond.selects RX3 yX3_turned yX3_turned, Cond.code yX3_turned cX3_turned 8 (some .boolean), Cond.methodLink RX3 91 yX3_neighbour, Cond.instanceMethod yX3_neighbour, Cond.selects RX3 yX3_neighbour yX3_neighbour, Cond.code yX3_neighbour cX3_neighbour 5 (some .int), Cond.methodLink RX3 50 yX3_at, Cond.instanceMethod yX3_at, Cond.selects RX3 yX3_at yX3_at, Cond.code yX3_at cX3_at 3 (some .int), Cond.fieldLink RX3 20 "TriangleSheetModel" "corners" "[I"]
def wsX3_turn_r2 : List Cond := [Cond.methodLink RX3 94 yX3_beyond, Cond.instanceMethod yX3_beyond, Cond.selects RX3 yX3_beyond yX3_beyond, Cond.code yX3_beyond cX3_beyond 5 (some .int), Cond.methodLink RX3 54 yX3_turnOfPoints, Cond.instanceMethod yX3_turnOfPoints, Cond.selects RX3 yX3_turnOfPoints yX3_turnOfPoints, Cond.code yX3_turnOfPoints cX3_turnOfPoints 4 (some .long), Cond.fieldLink RX3 7 "TriangleSheetModel" "px" "[I", Cond.fieldLink RX3 13 "TriangleSheetModel" "py" "[I", Cond.methodLink RX3 36 yX3_turnOf, Cond.static yX3_turnOf, Cond.code yX3_turnOf cX3_turnOf 12 (some .long), Cond.methodLink RX3 102 yX3_set, Cond.instanceMethod yX3_set, Cond.selects RX3 yX3_set yX3_set, Cond.code yX3_set cX3_set 5 none]
def wsX3_turn : List Cond := .code yX3_turn cX3_turn 3 (some .boolean) :: ((wsX3_turn_r1 ++ wsX3_turn_r2) ++ wsX30)
def wsX3_improves_r1 : List Cond := [Cond.fieldLink RX3 43 "TriangleSheetModel" "came" "I", Cond.fieldLink RX3 16 "TriangleSheetModel" "is" "[Z", Cond.methodLink RX3 124 yX3_good, Cond.instanceMethod yX3_good, Cond.selects RX3 yX3_good yX3_good, Cond.initialized RX3, Cond.code yX3_good cX3_good 17 (some .boolean), Cond.fieldLink RX3 7 "TriangleSheetModel" "px" "[I", Cond.fieldLink RX3 13 "TriangleSheetModel" "py" "[I", Cond.methodLink RX3 91 yX3_neighbour, Cond.instanceMethod yX3_neighbour, Cond.selects RX3 yX3_neighbour yX3_neighbour, Cond.code yX3_neighbour cX3_neighbour 5 (some .int), Cond.methodLink RX3 50 yX3_at, Cond.instanceMethod yX3_at, Cond.selects RX3 yX3_at yX3_at, Cond.code yX3_at cX3_at 3 (some .int), Cond.fieldLink RX3 20 "TriangleSheetModel" "corners" "[I", Cond.methodLink RX3 94 yX3_beyond, Cond.instanceMethod yX3_beyond, Cond.selects RX3 yX3_beyond yX3_beyond, Cond.code yX3_beyond cX3_beyond 5 (some .int), Cond.methodLink RX3 98 yX3_determinant, Cond.static yX3_determinant]
def wsX3_improves_r2 : List Cond := [Cond.code yX3_determinant cX3_determinant 18 (some .long), Cond.methodLink RX3 121 yX3_turned, Cond.instanceMethod yX3_turned, Cond.selects RX3 yX3_turned yX3_turned, Cond.code yX3_turned cX3_turned 8 (some .boolean), Cond.methodLink RX3 54 yX3_turnOfPoints, Cond.instanceMethod yX3_turnOfPoints, Cond.selects RX3 yX3_turnOfPoints yX3_turnOfPoints, Cond.code yX3_turnOfPoints cX3_turnOfPoints 4 (some .long), Cond.methodLink RX3 36 yX3_turnOf, Cond.static yX3_turnOf, Cond.code yX3_turnOf cX3_turnOf 12 (some .long), Cond.methodLink RX3 102 yX3_set, Cond.instanceMethod yX3_set, Cond.selects RX3 yX3_set yX3_set, Cond.code yX3_set cX3_set 5 none]
def wsX3_improves : List Cond := .code yX3_improves cX3_improves 3 (some .boolean) :: ((wsX3_improves_r1 ++ wsX3_improves_r2) ++ wsX30)
def wsX3_improve_r1 : List Cond := [Cond.fieldLink RX3 33 "TriangleSheetModel" "thrown" "I", Cond.methodLink RX3 46 yX3_in, Cond.static yX3_in, Cond.initialized RX3, Cond.code yX3_in cX3_in 2 (some .boolean), Cond.methodLink RX3 127 yX3_improves, Cond.instanceMethod yX3_improves, Cond.selects RX3 yX3_improves yX3_improves, Cond.code yX3_improves cX3_improves 3 (some .boolean), Cond.fieldLink RX3 43 "TriangleSheetModel" "came" "I", Cond.fieldLink RX3 16 "TriangleSheetModel" "is" "[Z", Cond.methodLink RX3 124 yX3_good, Cond.instanceMethod yX3_good, Cond.selects RX3 yX3_good yX3_good, Cond.code yX3_good cX3_good 17 (some .boolean), Cond.fieldLink RX3 7 "TriangleSheetModel" "px" "[I", Cond.fieldLink RX3 13 "TriangleSheetModel" "py" "[I", Cond.methodLink RX3 91 yX3_neighbour, Cond.instanceMethod yX3_neighbour, Cond.selects RX3 yX3_neighbour yX3_neighbour, Cond.code yX3_neighbour cX3_neighbour 5 (some .int), Cond.methodLink RX3 50 yX3_at, Cond.instanceMethod yX3_at, Cond.selects RX3 yX3_at yX3_at]
def wsX3_improve_r2 : List Cond := [Cond.code yX3_at cX3_at 3 (some .int), Cond.fieldLink RX3 20 "TriangleSheetModel" "corners" "[I", Cond.methodLink RX3 94 yX3_beyond, Cond.instanceMethod yX3_beyond, Cond.selects RX3 yX3_beyond yX3_beyond, Cond.code yX3_beyond cX3_beyond 5 (some .int), Cond.methodLink RX3 98 yX3_determinant, Cond.static yX3_determinant, Cond.code yX3_determinant cX3_determinant 18 (some .long), Cond.methodLink RX3 121 yX3_turned, Cond.instanceMethod yX3_turned, Cond.selects RX3 yX3_turned yX3_turned, Cond.code yX3_turned cX3_turned 8 (some .boolean), Cond.methodLink RX3 54 yX3_turnOfPoints, Cond.instanceMethod yX3_turnOfPoints, Cond.selects RX3 yX3_turnOfPoints yX3_turnOfPoints, Cond.code yX3_turnOfPoints cX3_turnOfPoints 4 (some .long), Cond.methodLink RX3 36 yX3_turnOf, Cond.static yX3_turnOf, Cond.code yX3_turnOf cX3_turnOf 12 (some .long), Cond.methodLink RX3 102 yX3_set, Cond.instanceMethod yX3_set, Cond.selects RX3 yX3_set yX3_set, Cond.code yX3_set cX3_set 5 none]
def wsX3_improve : List Cond := .code yX3_improve cX3_improve 3 (some .int) :: ((wsX3_improve_r1 ++ wsX3_improve_r2) ++ wsX30)
def wsX3_blame : List Cond := .code yX3_blame cX3_blame 4 (some .int) :: ([.fieldLink RX3 23 "TriangleSheetModel" "first" "I", .fieldLink RX3 27 "TriangleSheetModel" "second" "I"] ++ wsX30)
def wsX3_fault_r1 : List Cond := [Cond.fieldLink RX3 33 "TriangleSheetModel" "thrown" "I", Cond.fieldLink RX3 43 "TriangleSheetModel" "came" "I", Cond.fieldLink RX3 16 "TriangleSheetModel" "is" "[Z", Cond.methodLink RX3 85 yX3_isRight, Cond.instanceMethod yX3_isRight, Cond.selects RX3 yX3_isRight yX3_isRight, Cond.initialized RX3, Cond.code yX3_isRight cX3_isRight 2 (some .boolean), Cond.methodLink RX3 58 yX3_twice, Cond.instanceMethod yX3_twice, Cond.selects RX3 yX3_twice yX3_twice, Cond.code yX3_twice cX3_twice 2 (some .long), Cond.methodLink RX3 50 yX3_at, Cond.instanceMethod yX3_at, Cond.selects RX3 yX3_at yX3_at, Cond.code yX3_at cX3_at 3 (some .int), Cond.fieldLink RX3 20 "TriangleSheetModel" "corners" "[I", Cond.methodLink RX3 54 yX3_turnOfPoints, Cond.instanceMethod yX3_turnOfPoints, Cond.selects RX3 yX3_turnOfPoints yX3_turnOfPoints, Cond.code yX3_turnOfPoints cX3_turnOfPoints 4 (some .long), Cond.fieldLink RX3 7 "TriangleSheetModel" "px" "[I", Cond.fieldLink RX3 13 "TriangleSheetModel" "py" "[I", Cond.methodLink RX3 36 yX3_turnOf]
def wsX3_fault_r2 : List Cond := [Cond.static yX3_turnOf, Cond.code yX3_turnOf cX3_turnOf 12 (some .long), Cond.methodLink RX3 131 yX3_blame, Cond.instanceMethod yX3_blame, Cond.selects RX3 yX3_blame yX3_blame, Cond.code yX3_blame cX3_blame 4 (some .int), Cond.fieldLink RX3 23 "TriangleSheetModel" "first" "I", Cond.fieldLink RX3 27 "TriangleSheetModel" "second" "I", Cond.methodLink RX3 134 yX3_isTidy, Cond.instanceMethod yX3_isTidy, Cond.selects RX3 yX3_isTidy yX3_isTidy, Cond.code yX3_isTidy cX3_isTidy 6 (some .boolean), Cond.methodLink RX3 70 yX3_isCorner, Cond.instanceMethod yX3_isCorner, Cond.selects RX3 yX3_isCorner yX3_isCorner, Cond.code yX3_isCorner cX3_isCorner 3 (some .boolean), Cond.methodLink RX3 73 yX3_hasPlace, Cond.instanceMethod yX3_hasPlace, Cond.selects RX3 yX3_hasPlace yX3_hasPlace, Cond.code yX3_hasPlace cX3_hasPlace 8 (some .boolean), Cond.methodLink RX3 77 yX3_isOdd, Cond.instanceMethod yX3_isOdd, Cond.selects RX3 yX3_isOdd yX3_isOdd, Cond.code yX3_isOdd cX3_isOdd 6 (some .boolean)]
def wsX3_fault_r3 : List Cond := [Cond.methodLink RX3 62 yX3_isBetween, Cond.instanceMethod yX3_isBetween, Cond.selects RX3 yX3_isBetween yX3_isBetween, Cond.code yX3_isBetween cX3_isBetween 8 (some .boolean), Cond.methodLink RX3 66 yX3_sign, Cond.static yX3_sign, Cond.code yX3_sign cX3_sign 2 (some .int)]
def wsX3_fault : List Cond := .code yX3_fault cX3_fault 3 (some .int) :: ((wsX3_fault_r1 ++ (wsX3_fault_r2 ++ wsX3_fault_r3)) ++ wsX30)
def wsX3_culprit : List Cond := .code yX3_culprit cX3_culprit 2 (some .int) :: ([.fieldLink RX3 33 "TriangleSheetModel" "thrown" "I", .fieldLink RX3 23 "TriangleSheetModel" "first" "I", .fieldLink RX3 27 "TriangleSheetModel" "second" "I"] ++ wsX30)
def wsX3_covers_r1 : List Cond := [Cond.fieldLink RX3 33 "TriangleSheetModel" "thrown" "I", Cond.methodLink RX3 46 yX3_in, Cond.static yX3_in, Cond.initialized RX3, Cond.code yX3_in cX3_in 2 (some .boolean), Cond.methodLink RX3 137 yX3_howMany, Cond.instanceMethod yX3_howMany, Cond.selects RX3 yX3_howMany yX3_howMany, Cond.code yX3_howMany cX3_howMany 5 (some .int), Cond.fieldLink RX3 43 "TriangleSheetModel" "came" "I", Cond.methodLink RX3 88 yX3_isCovered, Cond.instanceMethod yX3_isCovered, Cond.selects RX3 yX3_isCovered yX3_isCovered, Cond.code yX3_isCovered cX3_isCovered 10 (some .boolean), Cond.fieldLink RX3 7 "TriangleSheetModel" "px" "[I", Cond.fieldLink RX3 13 "TriangleSheetModel" "py" "[I", Cond.methodLink RX3 81 yX3_isThere, Cond.instanceMethod yX3_isThere, Cond.selects RX3 yX3_isThere yX3_isThere, Cond.code yX3_isThere cX3_isThere 2 (some .boolean), Cond.fieldLink RX3 16 "TriangleSheetModel" "is" "[Z", Cond.methodLink RX3 85 yX3_isRight, Cond.instanceMethod yX3_isRight, Cond.selects RX3 yX3_isRight yX3_isRight]
def wsX3_covers_r2 : List Cond := [Cond.code yX3_isRight cX3_isRight 2 (some .boolean), Cond.methodLink RX3 58 yX3_twice, Cond.instanceMethod yX3_twice, Cond.selects RX3 yX3_twice yX3_twice, Cond.code yX3_twice cX3_twice 2 (some .long), Cond.methodLink RX3 50 yX3_at, Cond.instanceMethod yX3_at, Cond.selects RX3 yX3_at yX3_at, Cond.code yX3_at cX3_at 3 (some .int), Cond.fieldLink RX3 20 "TriangleSheetModel" "corners" "[I", Cond.methodLink RX3 54 yX3_turnOfPoints, Cond.instanceMethod yX3_turnOfPoints, Cond.selects RX3 yX3_turnOfPoints yX3_turnOfPoints, Cond.code yX3_turnOfPoints cX3_turnOfPoints 4 (some .long), Cond.methodLink RX3 36 yX3_turnOf, Cond.static yX3_turnOf, Cond.code yX3_turnOf cX3_turnOf 12 (some .long)]
def wsX3_covers : List Cond := .code yX3_covers cX3_covers 3 (some .int) :: ((wsX3_covers_r1 ++ wsX3_covers_r2) ++ wsX30)
def wsX3_who_r1 : List Cond := [Cond.fieldLink RX3 33 "TriangleSheetModel" "thrown" "I", Cond.fieldLink RX3 43 "TriangleSheetModel" "came" "I", Cond.methodLink RX3 46 yX3_in, Cond.static yX3_in, Cond.initialized RX3, Cond.code yX3_in cX3_in 2 (some .boolean), Cond.methodLink RX3 88 yX3_isCovered, Cond.instanceMethod yX3_isCovered, Cond.selects RX3 yX3_isCovered yX3_isCovered, Cond.code yX3_isCovered cX3_isCovered 10 (some .boolean), Cond.fieldLink RX3 7 "TriangleSheetModel" "px" "[I", Cond.fieldLink RX3 13 "TriangleSheetModel" "py" "[I", Cond.methodLink RX3 81 yX3_isThere, Cond.instanceMethod yX3_isThere, Cond.selects RX3 yX3_isThere yX3_isThere, Cond.code yX3_isThere cX3_isThere 2 (some .boolean), Cond.fieldLink RX3 16 "TriangleSheetModel" "is" "[Z", Cond.methodLink RX3 85 yX3_isRight, Cond.instanceMethod yX3_isRight, Cond.selects RX3 yX3_isRight yX3_isRight, Cond.code yX3_isRight cX3_isRight 2 (some .boolean), Cond.methodLink RX3 58 yX3_twice, Cond.instanceMethod yX3_twice, Cond.selects RX3 yX3_twice yX3_twice]
def wsX3_who_r2 : List Cond := [Cond.code yX3_twice cX3_twice 2 (some .long), Cond.methodLink RX3 50 yX3_at, Cond.instanceMethod yX3_at, Cond.selects RX3 yX3_at yX3_at, Cond.code yX3_at cX3_at 3 (some .int), Cond.fieldLink RX3 20 "TriangleSheetModel" "corners" "[I", Cond.methodLink RX3 54 yX3_turnOfPoints, Cond.instanceMethod yX3_turnOfPoints, Cond.selects RX3 yX3_turnOfPoints yX3_turnOfPoints, Cond.code yX3_turnOfPoints cX3_turnOfPoints 4 (some .long), Cond.methodLink RX3 36 yX3_turnOf, Cond.static yX3_turnOf, Cond.code yX3_turnOf cX3_turnOf 12 (some .long)]
def wsX3_who : List Cond := .code yX3_who cX3_who 4 (some .int) :: ((wsX3_who_r1 ++ wsX3_who_r2) ++ wsX30)
def wsX3_painted_r1 : List Cond := [Cond.fieldLink RX3 33 "TriangleSheetModel" "thrown" "I", Cond.constantLong RX3 140 (-1), Cond.fieldLink RX3 43 "TriangleSheetModel" "came" "I", Cond.fieldLink RX3 16 "TriangleSheetModel" "is" "[Z", Cond.methodLink RX3 85 yX3_isRight, Cond.instanceMethod yX3_isRight, Cond.selects RX3 yX3_isRight yX3_isRight, Cond.initialized RX3, Cond.code yX3_isRight cX3_isRight 2 (some .boolean), Cond.methodLink RX3 58 yX3_twice, Cond.instanceMethod yX3_twice, Cond.selects RX3 yX3_twice yX3_twice, Cond.code yX3_twice cX3_twice 2 (some .long), Cond.methodLink RX3 50 yX3_at, Cond.instanceMethod yX3_at, Cond.selects RX3 yX3_at yX3_at, Cond.code yX3_at cX3_at 3 (some .int), Cond.fieldLink RX3 20 "TriangleSheetModel" "corners" "[I", Cond.methodLink RX3 54 yX3_turnOfPoints, Cond.instanceMethod yX3_turnOfPoints, Cond.selects RX3 yX3_turnOfPoints yX3_turnOfPoints, Cond.code yX3_turnOfPoints cX3_turnOfPoints 4 (some .long), Cond.fieldLink RX3 7 "TriangleSheetModel" "px" "[I", Cond.fieldLink RX3 13 "TriangleSheetModel" "py" "[I"]
def wsX3_painted_r2 : List Cond := [Cond.methodLink RX3 36 yX3_turnOf, Cond.static yX3_turnOf, Cond.code yX3_turnOf cX3_turnOf 12 (some .long), Cond.methodLink RX3 137 yX3_howMany, Cond.instanceMethod yX3_howMany, Cond.selects RX3 yX3_howMany yX3_howMany, Cond.code yX3_howMany cX3_howMany 5 (some .int), Cond.methodLink RX3 88 yX3_isCovered, Cond.instanceMethod yX3_isCovered, Cond.selects RX3 yX3_isCovered yX3_isCovered, Cond.code yX3_isCovered cX3_isCovered 10 (some .boolean), Cond.methodLink RX3 81 yX3_isThere, Cond.instanceMethod yX3_isThere, Cond.selects RX3 yX3_isThere yX3_isThere, Cond.code yX3_isThere cX3_isThere 2 (some .boolean), Cond.methodLink RX3 46 yX3_in, Cond.static yX3_in, Cond.code yX3_in cX3_in 2 (some .boolean)]
def wsX3_painted : List Cond := .code yX3_painted cX3_painted 7 (some .long) :: ((wsX3_painted_r1 ++ wsX3_painted_r2) ++ wsX30)
def wsX3_locate_r1 : List Cond := [Cond.fieldLink RX3 33 "TriangleSheetModel" "thrown" "I", Cond.fieldLink RX3 43 "TriangleSheetModel" "came" "I", Cond.fieldLink RX3 16 "TriangleSheetModel" "is" "[Z", Cond.methodLink RX3 85 yX3_isRight, Cond.instanceMethod yX3_isRight, Cond.selects RX3 yX3_isRight yX3_isRight, Cond.initialized RX3, Cond.code yX3_isRight cX3_isRight 2 (some .boolean), Cond.methodLink RX3 58 yX3_twice, Cond.instanceMethod yX3_twice, Cond.selects RX3 yX3_twice yX3_twice, Cond.code yX3_twice cX3_twice 2 (some .long), Cond.methodLink RX3 50 yX3_at, Cond.instanceMethod yX3_at, Cond.selects RX3 yX3_at yX3_at, Cond.code yX3_at cX3_at 3 (some .int), Cond.fieldLink RX3 20 "TriangleSheetModel" "corners" "[I", Cond.methodLink RX3 54 yX3_turnOfPoints, Cond.instanceMethod yX3_turnOfPoints, Cond.selects RX3 yX3_turnOfPoints yX3_turnOfPoints, Cond.code yX3_turnOfPoints cX3_turnOfPoints 4 (some .long), Cond.fieldLink RX3 7 "TriangleSheetModel" "px" "[I", Cond.fieldLink RX3 13 "TriangleSheetModel" "py" "[I", Cond.methodLink RX3 36 yX3_turnOf]
def wsX3_locate_r2 : List Cond := [Cond.static yX3_turnOf, Cond.code yX3_turnOf cX3_turnOf 12 (some .long), Cond.methodLink RX3 73 yX3_hasPlace, Cond.instanceMethod yX3_hasPlace, Cond.selects RX3 yX3_hasPlace yX3_hasPlace, Cond.code yX3_hasPlace cX3_hasPlace 8 (some .boolean)]
def wsX3_locate : List Cond := .code yX3_locate cX3_locate 4 (some .int) :: ((wsX3_locate_r1 ++ wsX3_locate_r2) ++ wsX30)
def wsX3_beside : List Cond := .code yX3_beside cX3_beside 3 (some .int) :: ([.fieldLink RX3 33 "TriangleSheetModel" "thrown" "I", .methodLink RX3 81 yX3_isThere, .instanceMethod yX3_isThere, .selects RX3 yX3_isThere yX3_isThere, .initialized RX3, .code yX3_isThere cX3_isThere 2 (some .boolean), .fieldLink RX3 43 "TriangleSheetModel" "came" "I", .fieldLink RX3 16 "TriangleSheetModel" "is" "[Z", .methodLink RX3 46 yX3_in, .static yX3_in, .code yX3_in cX3_in 2 (some .boolean), .methodLink RX3 91 yX3_neighbour, .instanceMethod yX3_neighbour, .selects RX3 yX3_neighbour yX3_neighbour, .code yX3_neighbour cX3_neighbour 5 (some .int), .methodLink RX3 50 yX3_at, .instanceMethod yX3_at, .selects RX3 yX3_at yX3_at, .code yX3_at cX3_at 3 (some .int), .fieldLink RX3 20 "TriangleSheetModel" "corners" "[I"] ++ wsX30)
def wsX3_isGood_r1 : List Cond := [Cond.fieldLink RX3 33 "TriangleSheetModel" "thrown" "I", Cond.methodLink RX3 81 yX3_isThere, Cond.instanceMethod yX3_isThere, Cond.selects RX3 yX3_isThere yX3_isThere, Cond.initialized RX3, Cond.code yX3_isThere cX3_isThere 2 (some .boolean), Cond.fieldLink RX3 43 "TriangleSheetModel" "came" "I", Cond.fieldLink RX3 16 "TriangleSheetModel" "is" "[Z", Cond.methodLink RX3 46 yX3_in, Cond.static yX3_in, Cond.code yX3_in cX3_in 2 (some .boolean), Cond.methodLink RX3 124 yX3_good, Cond.instanceMethod yX3_good, Cond.selects RX3 yX3_good yX3_good, Cond.code yX3_good cX3_good 17 (some .boolean), Cond.fieldLink RX3 7 "TriangleSheetModel" "px" "[I", Cond.fieldLink RX3 13 "TriangleSheetModel" "py" "[I", Cond.methodLink RX3 91 yX3_neighbour, Cond.instanceMethod yX3_neighbour, Cond.selects RX3 yX3_neighbour yX3_neighbour, Cond.code yX3_neighbour cX3_neighbour 5 (some .int), Cond.methodLink RX3 50 yX3_at, Cond.instanceMethod yX3_at, Cond.selects RX3 yX3_at yX3_at]
def wsX3_isGood_r2 : List Cond := [Cond.code yX3_at cX3_at 3 (some .int), Cond.fieldLink RX3 20 "TriangleSheetModel" "corners" "[I", Cond.methodLink RX3 94 yX3_beyond, Cond.instanceMethod yX3_beyond, Cond.selects RX3 yX3_beyond yX3_beyond, Cond.code yX3_beyond cX3_beyond 5 (some .int), Cond.methodLink RX3 98 yX3_determinant, Cond.static yX3_determinant, Cond.code yX3_determinant cX3_determinant 18 (some .long)]
def wsX3_isGood : List Cond := .code yX3_isGood cX3_isGood 3 (some .boolean) :: ((wsX3_isGood_r1 ++ wsX3_isGood_r2) ++ wsX30)
def wsX3_corner : List Cond := .code yX3_corner cX3_corner 3 (some .int) :: ([.fieldLink RX3 33 "TriangleSheetModel" "thrown" "I", .methodLink RX3 81 yX3_isThere, .instanceMethod yX3_isThere, .selects RX3 yX3_isThere yX3_isThere, .initialized RX3, .code yX3_isThere cX3_isThere 2 (some .boolean), .fieldLink RX3 43 "TriangleSheetModel" "came" "I", .fieldLink RX3 16 "TriangleSheetModel" "is" "[Z", .methodLink RX3 46 yX3_in, .static yX3_in, .code yX3_in cX3_in 2 (some .boolean), .methodLink RX3 50 yX3_at, .instanceMethod yX3_at, .selects RX3 yX3_at yX3_at, .code yX3_at cX3_at 3 (some .int), .fieldLink RX3 20 "TriangleSheetModel" "corners" "[I"] ++ wsX30)
def wsX3_cornerPoints : List Cond := .code yX3_cornerPoints cX3_cornerPoints 5 (some .int) :: ([.fieldLink RX3 40 "TriangleSheetModel" "points" "I", .fieldLink RX3 43 "TriangleSheetModel" "came" "I", .fieldLink RX3 16 "TriangleSheetModel" "is" "[Z", .methodLink RX3 70 yX3_isCorner, .instanceMethod yX3_isCorner, .selects RX3 yX3_isCorner yX3_isCorner, .initialized RX3, .code yX3_isCorner cX3_isCorner 3 (some .boolean), .methodLink RX3 50 yX3_at, .instanceMethod yX3_at, .selects RX3 yX3_at yX3_at, .code yX3_at cX3_at 3 (some .int), .fieldLink RX3 20 "TriangleSheetModel" "corners" "[I"] ++ wsX30)
def wsX3_hasSide : List Cond := .code yX3_hasSide cX3_hasSide 5 (some .boolean) :: ([.methodLink RX3 50 yX3_at, .instanceMethod yX3_at, .selects RX3 yX3_at yX3_at, .initialized RX3, .code yX3_at cX3_at 3 (some .int), .fieldLink RX3 20 "TriangleSheetModel" "corners" "[I"] ++ wsX30)
def wsX3_sides : List Cond := .code yX3_sides cX3_sides 6 (some .int) :: ([.fieldLink RX3 40 "TriangleSheetModel" "points" "I", .fieldLink RX3 43 "TriangleSheetModel" "came" "I", .fieldLink RX3 16 "TriangleSheetModel" "is" "[Z", .methodLink RX3 142 yX3_hasSide, .instanceMethod yX3_hasSide, .selects RX3 yX3_hasSide yX3_hasSide, .initialized RX3, .code yX3_hasSide cX3_hasSide 5 (some .boolean), .methodLink RX3 50 yX3_at, .instanceMethod yX3_at, .selects RX3 yX3_at yX3_at, .code yX3_at cX3_at 3 (some .int), .fieldLink RX3 20 "TriangleSheetModel" "corners" "[I"] ++ wsX30)
def wsX3_pieces : List Cond := .code yX3_pieces cX3_pieces 6 (some .int) :: ([.fieldLink RX3 43 "TriangleSheetModel" "came" "I", .fieldLink RX3 30 "TriangleSheetModel" "marks" "[I", .fieldLink RX3 16 "TriangleSheetModel" "is" "[Z", .methodLink RX3 91 yX3_neighbour, .instanceMethod yX3_neighbour, .selects RX3 yX3_neighbour yX3_neighbour, .initialized RX3, .code yX3_neighbour cX3_neighbour 5 (some .int), .methodLink RX3 50 yX3_at, .instanceMethod yX3_at, .selects RX3 yX3_at yX3_at, .code yX3_at cX3_at 3 (some .int), .fieldLink RX3 20 "TriangleSheetModel" "corners" "[I"] ++ wsX30)
def wsX3_edges_r1 : List Cond := [Cond.fieldLink RX3 43 "TriangleSheetModel" "came" "I", Cond.fieldLink RX3 16 "TriangleSheetModel" "is" "[Z", Cond.methodLink RX3 91 yX3_neighbour, Cond.instanceMethod yX3_neighbour, Cond.selects RX3 yX3_neighbour yX3_neighbour, Cond.initialized RX3, Cond.code yX3_neighbour cX3_neighbour 5 (some .int), Cond.methodLink RX3 50 yX3_at, Cond.instanceMethod yX3_at, Cond.selects RX3 yX3_at yX3_at, Cond.code yX3_at cX3_at 3 (some .int), Cond.fieldLink RX3 20 "TriangleSheetModel" "corners" "[I", Cond.methodLink RX3 124 yX3_good, Cond.instanceMethod yX3_good, Cond.selects RX3 yX3_good yX3_good, Cond.code yX3_good cX3_good 17 (some .boolean), Cond.fieldLink RX3 7 "TriangleSheetModel" "px" "[I", Cond.fieldLink RX3 13 "TriangleSheetModel" "py" "[I", Cond.methodLink RX3 94 yX3_beyond, Cond.instanceMethod yX3_beyond, Cond.selects RX3 yX3_beyond yX3_beyond, Cond.code yX3_beyond cX3_beyond 5 (some .int), Cond.methodLink RX3 98 yX3_determinant, Cond.static yX3_determinant]
def wsX3_edges_r2 : List Cond := [Cond.code yX3_determinant cX3_determinant 18 (some .long)]
def wsX3_edges : List Cond := .code yX3_edges cX3_edges 5 (some .int) :: ((wsX3_edges_r1 ++ wsX3_edges_r2) ++ wsX30)
def wsX3_count_r1 : List Cond := [Cond.fieldLink RX3 33 "TriangleSheetModel" "thrown" "I", Cond.fieldLink RX3 40 "TriangleSheetModel" "points" "I", Cond.fieldLink RX3 112 "TriangleSheetModel" "there" "I", Cond.fieldLink RX3 43 "TriangleSheetModel" "came" "I", Cond.methodLink RX3 145 yX3_cornerPoints, Cond.instanceMethod yX3_cornerPoints, Cond.selects RX3 yX3_cornerPoints yX3_cornerPoints, Cond.initialized RX3, Cond.code yX3_cornerPoints cX3_cornerPoints 5 (some .int), Cond.fieldLink RX3 16 "TriangleSheetModel" "is" "[Z", Cond.methodLink RX3 70 yX3_isCorner, Cond.instanceMethod yX3_isCorner, Cond.selects RX3 yX3_isCorner yX3_isCorner, Cond.code yX3_isCorner cX3_isCorner 3 (some .boolean), Cond.methodLink RX3 50 yX3_at, Cond.instanceMethod yX3_at, Cond.selects RX3 yX3_at yX3_at, Cond.code yX3_at cX3_at 3 (some .int), Cond.fieldLink RX3 20 "TriangleSheetModel" "corners" "[I", Cond.methodLink RX3 149 yX3_sides, Cond.instanceMethod yX3_sides, Cond.selects RX3 yX3_sides yX3_sides, Cond.code yX3_sides cX3_sides 6 (some .int), Cond.methodLink RX3 142 yX3_hasSide]
def wsX3_count_r2 : List Cond := [Cond.instanceMethod yX3_hasSide, Cond.selects RX3 yX3_hasSide yX3_hasSide, Cond.code yX3_hasSide cX3_hasSide 5 (some .boolean), Cond.methodLink RX3 152 yX3_edges, Cond.instanceMethod yX3_edges, Cond.selects RX3 yX3_edges yX3_edges, Cond.code yX3_edges cX3_edges 5 (some .int), Cond.methodLink RX3 91 yX3_neighbour, Cond.instanceMethod yX3_neighbour, Cond.selects RX3 yX3_neighbour yX3_neighbour, Cond.code yX3_neighbour cX3_neighbour 5 (some .int), Cond.methodLink RX3 124 yX3_good, Cond.instanceMethod yX3_good, Cond.selects RX3 yX3_good yX3_good, Cond.code yX3_good cX3_good 17 (some .boolean), Cond.fieldLink RX3 7 "TriangleSheetModel" "px" "[I", Cond.fieldLink RX3 13 "TriangleSheetModel" "py" "[I", Cond.methodLink RX3 94 yX3_beyond, Cond.instanceMethod yX3_beyond, Cond.selects RX3 yX3_beyond yX3_beyond, Cond.code yX3_beyond cX3_beyond 5 (some .int), Cond.methodLink RX3 98 yX3_determinant, Cond.static yX3_determinant, Cond.code yX3_determinant cX3_determinant 18 (some .long)]
def wsX3_count_r3 : List Cond := [Cond.methodLink RX3 156 yX3_pieces, Cond.instanceMethod yX3_pieces, Cond.selects RX3 yX3_pieces yX3_pieces, Cond.code yX3_pieces cX3_pieces 6 (some .int), Cond.fieldLink RX3 30 "TriangleSheetModel" "marks" "[I"]
def wsX3_count : List Cond := .code yX3_count cX3_count 2 (some .int) :: ((wsX3_count_r1 ++ (wsX3_count_r2 ++ wsX3_count_r3)) ++ wsX30)
def wsJ9_max_7cf53 : List Cond := .code yJ9_max_7cf53 cJ9_max_7cf53 2 (some .int) :: ([])
def wsJ9_min_7cf53 : List Cond := .code yJ9_min_7cf53 cJ9_min_7cf53 2 (some .int) :: ([])
def wsL_point_r1 : List Cond := [Cond.classLink RL 13 "java/lang/IllegalArgumentException", Cond.classLink RL 15 "java/lang/IllegalStateException", Cond.methodLink RL 7 yX2_point, Cond.instanceMethod yX2_point, Cond.selects RX2 yX2_point yX2_point, Cond.initialized RX2, Cond.code yX2_point cX2_point 3 (some .int), Cond.classLink RX2 42 "java/lang/IllegalArgumentException", Cond.initialized "java/lang/IllegalArgumentException", Cond.classLink RX2 52 "java/lang/IllegalStateException", Cond.initialized "java/lang/IllegalStateException", Cond.fieldLink RX2 10 "TriangleSheet" "points" "LTriangleSheet$Points;", Cond.methodLink RX2 38 yX2_isPlace, Cond.static yX2_isPlace, Cond.code yX2_isPlace cX2_isPlace 2 (some .boolean), Cond.methodLink RX2 49 yX0_canAdd, Cond.instanceMethod yX0_canAdd, Cond.selects RX0 yX0_canAdd yX0_canAdd, Cond.initialized RX0, Cond.code yX0_canAdd cX0_canAdd 3 (some .boolean), Cond.fieldLink RX0 18 "TriangleSheet$Points" "came" "I", Cond.methodLink RX0 22 yX0_pointAt, Cond.instanceMethod yX0_pointAt, Cond.selects RX0 yX0_pointAt yX0_pointAt]
def wsL_point_r2 : List Cond := [Cond.code yX0_pointAt cX0_pointAt 4 (some .int), Cond.fieldLink RX0 9 "TriangleSheet$Points" "xs" "[I", Cond.fieldLink RX0 15 "TriangleSheet$Points" "ys" "[I", Cond.methodLink RX2 57 yX0_add, Cond.instanceMethod yX0_add, Cond.selects RX0 yX0_add yX0_add, Cond.code yX0_add cX0_add 4 (some .int), Cond.methodLink RX0 26 yX0_put, Cond.instanceMethod yX0_put, Cond.selects RX0 yX0_put yX0_put, Cond.code yX0_put cX0_put 4 none]
def wsL_point : List Cond := .codeWith yL_point cL_point 5 (some .int) [(0, 10, 13, 13), (0, 10, 17, 15)] :: ((wsL_point_r1 ++ wsL_point_r2) ++ wsX20 ++ wsX00 ++ (vx_atS RX2 46 "java/lang/IllegalArgumentException" ["java/lang/RuntimeException", "java/lang/Exception"]).filter goodWord ++ (vx_atS RX2 56 "java/lang/IllegalStateException" ["java/lang/RuntimeException", "java/lang/Exception"]).filter goodWord)
def wsL_move_r1 : List Cond := [Cond.classLink RL 21 "java/lang/IndexOutOfBoundsException", Cond.classLink RL 13 "java/lang/IllegalArgumentException", Cond.classLink RL 15 "java/lang/IllegalStateException", Cond.methodLink RL 17 yX2_move, Cond.instanceMethod yX2_move, Cond.selects RX2 yX2_move yX2_move, Cond.initialized RX2, Cond.code yX2_move cX2_move 5 none, Cond.classLink RX2 65 "java/lang/IndexOutOfBoundsException", Cond.initialized "java/lang/IndexOutOfBoundsException", Cond.classLink RX2 42 "java/lang/IllegalArgumentException", Cond.initialized "java/lang/IllegalArgumentException", Cond.classLink RX2 52 "java/lang/IllegalStateException", Cond.initialized "java/lang/IllegalStateException", Cond.fieldLink RX2 10 "TriangleSheet" "points" "LTriangleSheet$Points;", Cond.methodLink RX2 61 yX0_isPoint, Cond.instanceMethod yX0_isPoint, Cond.selects RX0 yX0_isPoint yX0_isPoint, Cond.initialized RX0, Cond.code yX0_isPoint cX0_isPoint 2 (some .boolean), Cond.fieldLink RX0 18 "TriangleSheet$Points" "came" "I", Cond.methodLink RX2 38 yX2_isPlace, Cond.static yX2_isPlace, Cond.code yX2_isPlace cX2_isPlace 2 (some .boolean)]
def wsL_move_r2 : List Cond := [Cond.methodLink RX2 70 yX0_pointAt, Cond.instanceMethod yX0_pointAt, Cond.selects RX0 yX0_pointAt yX0_pointAt, Cond.code yX0_pointAt cX0_pointAt 4 (some .int), Cond.fieldLink RX0 9 "TriangleSheet$Points" "xs" "[I", Cond.fieldLink RX0 15 "TriangleSheet$Points" "ys" "[I", Cond.methodLink RX2 75 yX0_put, Cond.instanceMethod yX0_put, Cond.selects RX0 yX0_put yX0_put, Cond.code yX0_put cX0_put 4 none]
def wsL_move : List Cond := .codeWith yL_move cL_move 5 (some .int) [(0, 7, 10, 21), (0, 7, 14, 13), (0, 7, 18, 15)] :: ((wsL_move_r1 ++ wsL_move_r2) ++ wsX20 ++ wsX00 ++ (vx_atS RX2 69 "java/lang/IndexOutOfBoundsException" ["java/lang/RuntimeException", "java/lang/Exception"]).filter goodWord ++ (vx_atS RX2 46 "java/lang/IllegalArgumentException" ["java/lang/RuntimeException", "java/lang/Exception"]).filter goodWord ++ (vx_atS RX2 56 "java/lang/IllegalStateException" ["java/lang/RuntimeException", "java/lang/Exception"]).filter goodWord)
def wsL_triangle_r1 : List Cond := [Cond.classLink RL 21 "java/lang/IndexOutOfBoundsException", Cond.classLink RL 13 "java/lang/IllegalArgumentException", Cond.classLink RL 15 "java/lang/IllegalStateException", Cond.methodLink RL 23 yX2_triangle, Cond.instanceMethod yX2_triangle, Cond.selects RX2 yX2_triangle yX2_triangle, Cond.initialized RX2, Cond.code yX2_triangle cX2_triangle 4 (some .int), Cond.classLink RX2 65 "java/lang/IndexOutOfBoundsException", Cond.initialized "java/lang/IndexOutOfBoundsException", Cond.classLink RX2 42 "java/lang/IllegalArgumentException", Cond.initialized "java/lang/IllegalArgumentException", Cond.classLink RX2 52 "java/lang/IllegalStateException", Cond.initialized "java/lang/IllegalStateException", Cond.fieldLink RX2 10 "TriangleSheet" "points" "LTriangleSheet$Points;", Cond.fieldLink RX2 19 "TriangleSheet" "triangles" "LTriangleSheet$Triangles;", Cond.methodLink RX2 61 yX0_isPoint, Cond.instanceMethod yX0_isPoint, Cond.selects RX0 yX0_isPoint yX0_isPoint, Cond.initialized RX0, Cond.code yX0_isPoint cX0_isPoint 2 (some .boolean), Cond.fieldLink RX0 18 "TriangleSheet$Points" "came" "I", Cond.methodLink RX2 83 yX1_canAdd, Cond.instanceMethod yX1_canAdd]
def wsL_triangle_r2 : List Cond := [Cond.selects RX1 yX1_canAdd yX1_canAdd, Cond.initialized RX1, Cond.code yX1_canAdd cX1_canAdd 2 (some .boolean), Cond.fieldLink RX1 18 "TriangleSheet$Triangles" "thereCount" "I", Cond.fieldLink RX1 22 "TriangleSheet$Triangles" "came" "I", Cond.methodLink RX2 87 yX1_add, Cond.instanceMethod yX1_add, Cond.selects RX1 yX1_add yX1_add, Cond.code yX1_add cX1_add 5 (some .int), Cond.fieldLink RX1 15 "TriangleSheet$Triangles" "there" "[I", Cond.methodLink RX1 25 yX1_put, Cond.instanceMethod yX1_put, Cond.selects RX1 yX1_put yX1_put, Cond.code yX1_put cX1_put 5 none, Cond.fieldLink RX1 9 "TriangleSheet$Triangles" "corners" "[I"]
def wsL_triangle : List Cond := .codeWith yL_triangle cL_triangle 6 (some .int) [(0, 12, 15, 21), (0, 12, 19, 13), (0, 12, 23, 15)] :: ((wsL_triangle_r1 ++ wsL_triangle_r2) ++ wsX20 ++ wsX00 ++ wsX10 ++ (vx_atS RX2 69 "java/lang/IndexOutOfBoundsException" ["java/lang/RuntimeException", "java/lang/Exception"]).filter goodWord ++ (vx_atS RX2 46 "java/lang/IllegalArgumentException" ["java/lang/RuntimeException", "java/lang/Exception"]).filter goodWord ++ (vx_atS RX2 56 "java/lang/IllegalStateException" ["java/lang/RuntimeException", "java/lang/Exception"]).filter goodWord)
def wsL_take : List Cond := .codeWith yL_take cL_take 3 (some .int) [(0, 5, 8, 21)] :: ([.classLink RL 21 "java/lang/IndexOutOfBoundsException", .methodLink RL 27 yX2_take, .instanceMethod yX2_take, .selects RX2 yX2_take yX2_take, .initialized RX2, .code yX2_take cX2_take 2 none, .classLink RX2 65 "java/lang/IndexOutOfBoundsException", .initialized "java/lang/IndexOutOfBoundsException", .fieldLink RX2 19 "TriangleSheet" "triangles" "LTriangleSheet$Triangles;", .methodLink RX2 90 yX1_isThere, .instanceMethod yX1_isThere, .selects RX1 yX1_isThere yX1_isThere, .initialized RX1, .code yX1_isThere cX1_isThere 3 (some .boolean), .fieldLink RX1 18 "TriangleSheet$Triangles" "thereCount" "I", .fieldLink RX1 15 "TriangleSheet$Triangles" "there" "[I", .methodLink RX2 95 yX1_remove, .instanceMethod yX1_remove, .selects RX1 yX1_remove yX1_remove, .code yX1_remove cX1_remove 4 none] ++ wsX20 ++ wsX10 ++ (vx_atS RX2 69 "java/lang/IndexOutOfBoundsException" ["java/lang/RuntimeException", "java/lang/Exception"]).filter goodWord)
def wsL_part_r1 : List Cond := [Cond.classLink RL 21 "java/lang/IndexOutOfBoundsException", Cond.classLink RL 13 "java/lang/IllegalArgumentException", Cond.classLink RL 15 "java/lang/IllegalStateException", Cond.methodLink RL 31 yX2_part, Cond.instanceMethod yX2_part, Cond.selects RX2 yX2_part yX2_part, Cond.initialized RX2, Cond.code yX2_part cX2_part 8 (some .int), Cond.classLink RX2 65 "java/lang/IndexOutOfBoundsException", Cond.initialized "java/lang/IndexOutOfBoundsException", Cond.classLink RX2 42 "java/lang/IllegalArgumentException", Cond.initialized "java/lang/IllegalArgumentException", Cond.classLink RX2 52 "java/lang/IllegalStateException", Cond.initialized "java/lang/IllegalStateException", Cond.fieldLink RX2 19 "TriangleSheet" "triangles" "LTriangleSheet$Triangles;", Cond.fieldLink RX2 10 "TriangleSheet" "points" "LTriangleSheet$Points;", Cond.methodLink RX2 90 yX1_isThere, Cond.instanceMethod yX1_isThere, Cond.selects RX1 yX1_isThere yX1_isThere, Cond.initialized RX1, Cond.code yX1_isThere cX1_isThere 3 (some .boolean), Cond.fieldLink RX1 18 "TriangleSheet$Triangles" "thereCount" "I", Cond.fieldLink RX1 15 "TriangleSheet$Triangles" "there" "[I", Cond.methodLink RX2 38 yX2_isPlace]
def wsL_part_r2 : List Cond := [Cond.static yX2_isPlace, Cond.code yX2_isPlace cX2_isPlace 2 (some .boolean), Cond.methodLink RX2 99 yX2_isWithin, Cond.instanceMethod yX2_isWithin, Cond.selects RX2 yX2_isWithin yX2_isWithin, Cond.code yX2_isWithin cX2_isWithin 5 (some .boolean), Cond.methodLink RX2 198 yX2_turnBesideEdge, Cond.instanceMethod yX2_turnBesideEdge, Cond.selects RX2 yX2_turnBesideEdge yX2_turnBesideEdge, Cond.code yX2_turnBesideEdge cX2_turnBesideEdge 5 (some .int), Cond.methodLink RX2 107 yX1_cornerOf, Cond.instanceMethod yX1_cornerOf, Cond.selects RX1 yX1_cornerOf yX1_cornerOf, Cond.code yX1_cornerOf cX1_cornerOf 3 (some .int), Cond.fieldLink RX1 9 "TriangleSheet$Triangles" "corners" "[I", Cond.methodLink RX2 194 yX0_turnAt, Cond.instanceMethod yX0_turnAt, Cond.selects RX0 yX0_turnAt yX0_turnAt, Cond.initialized RX0, Cond.code yX0_turnAt cX0_turnAt 5 (some .int), Cond.fieldLink RX0 9 "TriangleSheet$Points" "xs" "[I", Cond.fieldLink RX0 15 "TriangleSheet$Points" "ys" "[I", Cond.methodLink RX2 49 yX0_canAdd, Cond.instanceMethod yX0_canAdd]
def wsL_part_r3 : List Cond := [Cond.selects RX0 yX0_canAdd yX0_canAdd, Cond.code yX0_canAdd cX0_canAdd 3 (some .boolean), Cond.fieldLink RX0 18 "TriangleSheet$Points" "came" "I", Cond.methodLink RX0 22 yX0_pointAt, Cond.instanceMethod yX0_pointAt, Cond.selects RX0 yX0_pointAt yX0_pointAt, Cond.code yX0_pointAt cX0_pointAt 4 (some .int), Cond.methodLink RX2 83 yX1_canAdd, Cond.instanceMethod yX1_canAdd, Cond.selects RX1 yX1_canAdd yX1_canAdd, Cond.code yX1_canAdd cX1_canAdd 2 (some .boolean), Cond.fieldLink RX1 22 "TriangleSheet$Triangles" "came" "I", Cond.methodLink RX2 57 yX0_add, Cond.instanceMethod yX0_add, Cond.selects RX0 yX0_add yX0_add, Cond.code yX0_add cX0_add 4 (some .int), Cond.methodLink RX0 26 yX0_put, Cond.instanceMethod yX0_put, Cond.selects RX0 yX0_put yX0_put, Cond.code yX0_put cX0_put 4 none, Cond.methodLink RX2 110 yX1_put, Cond.instanceMethod yX1_put, Cond.selects RX1 yX1_put yX1_put, Cond.code yX1_put cX1_put 5 none]
def wsL_part_r4 : List Cond := [Cond.methodLink RX2 87 yX1_add, Cond.instanceMethod yX1_add, Cond.selects RX1 yX1_add yX1_add, Cond.code yX1_add cX1_add 5 (some .int), Cond.methodLink RX1 25 yX1_put]
def wsL_part : List Cond := .codeWith yL_part cL_part 6 (some .int) [(0, 12, 15, 21), (0, 12, 19, 13), (0, 12, 23, 15)] :: ((wsL_part_r1 ++ (wsL_part_r2 ++ (wsL_part_r3 ++ wsL_part_r4))) ++ wsX20 ++ wsX10 ++ wsX00 ++ (vx_atS RX2 69 "java/lang/IndexOutOfBoundsException" ["java/lang/RuntimeException", "java/lang/Exception"]).filter goodWord ++ (vx_atS RX2 46 "java/lang/IllegalArgumentException" ["java/lang/RuntimeException", "java/lang/Exception"]).filter goodWord ++ (vx_atS RX2 56 "java/lang/IllegalStateException" ["java/lang/RuntimeException", "java/lang/Exception"]).filter goodWord)
def wsL_turn_r1 : List Cond := [Cond.classLink RL 21 "java/lang/IndexOutOfBoundsException", Cond.methodLink RL 34 yX2_turn, Cond.instanceMethod yX2_turn, Cond.selects RX2 yX2_turn yX2_turn, Cond.initialized RX2, Cond.code yX2_turn cX2_turn 3 (some .boolean), Cond.classLink RX2 65 "java/lang/IndexOutOfBoundsException", Cond.initialized "java/lang/IndexOutOfBoundsException", Cond.methodLink RX2 113 yX2_isEdge, Cond.instanceMethod yX2_isEdge, Cond.selects RX2 yX2_isEdge yX2_isEdge, Cond.code yX2_isEdge cX2_isEdge 3 (some .boolean), Cond.fieldLink RX2 19 "TriangleSheet" "triangles" "LTriangleSheet$Triangles;", Cond.methodLink RX2 90 yX1_isThere, Cond.instanceMethod yX1_isThere, Cond.selects RX1 yX1_isThere yX1_isThere, Cond.initialized RX1, Cond.code yX1_isThere cX1_isThere 3 (some .boolean), Cond.fieldLink RX1 18 "TriangleSheet$Triangles" "thereCount" "I", Cond.fieldLink RX1 15 "TriangleSheet$Triangles" "there" "[I", Cond.methodLink RX2 118 yX2_turnEdge, Cond.instanceMethod yX2_turnEdge, Cond.selects RX2 yX2_turnEdge yX2_turnEdge, Cond.code yX2_turnEdge cX2_turnEdge 8 (some .boolean)]
def wsL_turn_r2 : List Cond := [Cond.fieldLink RX2 10 "TriangleSheet" "points" "LTriangleSheet$Points;", Cond.methodLink RX2 164 yX1_neighbour, Cond.instanceMethod yX1_neighbour, Cond.selects RX1 yX1_neighbour yX1_neighbour, Cond.code yX1_neighbour cX1_neighbour 6 (some .int), Cond.methodLink RX1 29 yX1_cornerOf, Cond.instanceMethod yX1_cornerOf, Cond.selects RX1 yX1_cornerOf yX1_cornerOf, Cond.code yX1_cornerOf cX1_cornerOf 3 (some .int), Cond.fieldLink RX1 9 "TriangleSheet$Triangles" "corners" "[I", Cond.methodLink RX1 33 yX1_hasEdge, Cond.instanceMethod yX1_hasEdge, Cond.selects RX1 yX1_hasEdge yX1_hasEdge, Cond.code yX1_hasEdge cX1_hasEdge 7 (some .boolean), Cond.methodLink RX2 107 yX1_cornerOf, Cond.methodLink RX2 275 yX1_thirdCorner, Cond.instanceMethod yX1_thirdCorner, Cond.selects RX1 yX1_thirdCorner yX1_thirdCorner, Cond.code yX1_thirdCorner cX1_thirdCorner 4 (some .int), Cond.methodLink RX2 189 yX0_turnOf, Cond.instanceMethod yX0_turnOf, Cond.selects RX0 yX0_turnOf yX0_turnOf, Cond.initialized RX0, Cond.code yX0_turnOf cX0_turnOf 4 (some .int)]
def wsL_turn_r3 : List Cond := [Cond.fieldLink RX0 9 "TriangleSheet$Points" "xs" "[I", Cond.fieldLink RX0 15 "TriangleSheet$Points" "ys" "[I", Cond.methodLink RX0 30 yX0_turnAt, Cond.instanceMethod yX0_turnAt, Cond.selects RX0 yX0_turnAt yX0_turnAt, Cond.code yX0_turnAt cX0_turnAt 5 (some .int), Cond.methodLink RX2 110 yX1_put, Cond.instanceMethod yX1_put, Cond.selects RX1 yX1_put yX1_put, Cond.code yX1_put cX1_put 5 none]
def wsL_turn : List Cond := .codeWith yL_turn cL_turn 5 (some .int) [(0, 17, 20, 21)] :: ((wsL_turn_r1 ++ (wsL_turn_r2 ++ wsL_turn_r3)) ++ wsX20 ++ wsX10 ++ wsX00 ++ (vx_atS RX2 69 "java/lang/IndexOutOfBoundsException" ["java/lang/RuntimeException", "java/lang/Exception"]).filter goodWord)
def wsL_improve_r1 : List Cond := [Cond.classLink RL 13 "java/lang/IllegalArgumentException", Cond.methodLink RL 38 yX2_improve, Cond.instanceMethod yX2_improve, Cond.selects RX2 yX2_improve yX2_improve, Cond.initialized RX2, Cond.code yX2_improve cX2_improve 3 (some .int), Cond.classLink RX2 42 "java/lang/IllegalArgumentException", Cond.initialized "java/lang/IllegalArgumentException", Cond.methodLink RX2 123 yX2_turnFirstBadEdge, Cond.instanceMethod yX2_turnFirstBadEdge, Cond.selects RX2 yX2_turnFirstBadEdge yX2_turnFirstBadEdge, Cond.code yX2_turnFirstBadEdge cX2_turnFirstBadEdge 4 (some .boolean), Cond.fieldLink RX2 19 "TriangleSheet" "triangles" "LTriangleSheet$Triangles;", Cond.methodLink RX2 127 yX1_thereCount, Cond.instanceMethod yX1_thereCount, Cond.selects RX1 yX1_thereCount yX1_thereCount, Cond.initialized RX1, Cond.code yX1_thereCount cX1_thereCount 1 (some .int), Cond.fieldLink RX1 18 "TriangleSheet$Triangles" "thereCount" "I", Cond.methodLink RX2 131 yX1_numberAt, Cond.instanceMethod yX1_numberAt, Cond.selects RX1 yX1_numberAt yX1_numberAt, Cond.code yX1_numberAt cX1_numberAt 2 (some .int), Cond.fieldLink RX1 15 "TriangleSheet$Triangles" "there" "[I"]
def wsL_improve_r2 : List Cond := [Cond.methodLink RX2 167 yX2_isGoodEdge, Cond.instanceMethod yX2_isGoodEdge, Cond.selects RX2 yX2_isGoodEdge yX2_isGoodEdge, Cond.code yX2_isGoodEdge cX2_isGoodEdge 7 (some .boolean), Cond.fieldLink RX2 10 "TriangleSheet" "points" "LTriangleSheet$Points;", Cond.methodLink RX2 164 yX1_neighbour, Cond.instanceMethod yX1_neighbour, Cond.selects RX1 yX1_neighbour yX1_neighbour, Cond.code yX1_neighbour cX1_neighbour 6 (some .int), Cond.methodLink RX1 29 yX1_cornerOf, Cond.instanceMethod yX1_cornerOf, Cond.selects RX1 yX1_cornerOf yX1_cornerOf, Cond.code yX1_cornerOf cX1_cornerOf 3 (some .int), Cond.fieldLink RX1 9 "TriangleSheet$Triangles" "corners" "[I", Cond.methodLink RX1 33 yX1_hasEdge, Cond.instanceMethod yX1_hasEdge, Cond.selects RX1 yX1_hasEdge yX1_hasEdge, Cond.code yX1_hasEdge cX1_hasEdge 7 (some .boolean), Cond.methodLink RX2 107 yX1_cornerOf, Cond.methodLink RX2 275 yX1_thirdCorner, Cond.instanceMethod yX1_thirdCorner, Cond.selects RX1 yX1_thirdCorner yX1_thirdCorner, Cond.code yX1_thirdCorner cX1_thirdCorner 4 (some .int), Cond.methodLink RX2 278 yX0_circleSide]
def wsL_improve_r3 : List Cond := [Cond.instanceMethod yX0_circleSide, Cond.selects RX0 yX0_circleSide yX0_circleSide, Cond.initialized RX0, Cond.code yX0_circleSide cX0_circleSide 17 (some .long), Cond.fieldLink RX0 9 "TriangleSheet$Points" "xs" "[I", Cond.fieldLink RX0 15 "TriangleSheet$Points" "ys" "[I", Cond.methodLink RX2 118 yX2_turnEdge, Cond.instanceMethod yX2_turnEdge, Cond.selects RX2 yX2_turnEdge yX2_turnEdge, Cond.code yX2_turnEdge cX2_turnEdge 8 (some .boolean), Cond.methodLink RX2 189 yX0_turnOf, Cond.instanceMethod yX0_turnOf, Cond.selects RX0 yX0_turnOf yX0_turnOf, Cond.code yX0_turnOf cX0_turnOf 4 (some .int), Cond.methodLink RX0 30 yX0_turnAt, Cond.instanceMethod yX0_turnAt, Cond.selects RX0 yX0_turnAt yX0_turnAt, Cond.code yX0_turnAt cX0_turnAt 5 (some .int), Cond.methodLink RX2 110 yX1_put, Cond.instanceMethod yX1_put, Cond.selects RX1 yX1_put yX1_put, Cond.code yX1_put cX1_put 5 none]
def wsL_improve : List Cond := .codeWith yL_improve cL_improve 4 (some .int) [(0, 9, 12, 13)] :: ((wsL_improve_r1 ++ (wsL_improve_r2 ++ wsL_improve_r3)) ++ wsX20 ++ wsX10 ++ wsX00 ++ (vx_atS RX2 46 "java/lang/IllegalArgumentException" ["java/lang/RuntimeException", "java/lang/Exception"]).filter goodWord)
def wsL_law0_r1 : List Cond := [Cond.classLink RL 8 RX2, Cond.instantiable RX2 6, Cond.initialized RX2, Cond.classLink RL 43 RX3, Cond.instantiable RX3 11, Cond.initialized RX3, Cond.arrayClass .long, Cond.methodLink RL 42 yX2_init, Cond.instanceMethod yX2_init, Cond.code yX2_init cX2_init 1 none, Cond.methodLink RX2 1 objectInit, Cond.instanceMethod objectInit, Cond.code objectInit ⟨#[0xb1]⟩ 1 none, Cond.classLink RX2 7 RX0, Cond.instantiable RX0 3, Cond.initialized RX0, Cond.fieldLink RX2 10 "TriangleSheet" "points" "LTriangleSheet$Points;", Cond.classLink RX2 16 RX1, Cond.instantiable RX1 4, Cond.initialized RX1, Cond.fieldLink RX2 19 "TriangleSheet" "triangles" "LTriangleSheet$Triangles;", Cond.fieldLink RX2 23 "TriangleSheet" "joinedTo" "[J", Cond.arrayClass .int, Cond.fieldLink RX2 27 "TriangleSheet" "pieceOf" "[I"]
def wsL_law0_r2 : List Cond := [Cond.fieldLink RX2 31 "TriangleSheet" "faulty" "I", Cond.fieldLink RX2 35 "TriangleSheet" "faultyWith" "I", Cond.methodLink RX2 9 yX0_init, Cond.instanceMethod yX0_init, Cond.code yX0_init cX0_init 1 none, Cond.methodLink RX0 3 objectInit, Cond.fieldLink RX0 9 "TriangleSheet$Points" "xs" "[I", Cond.fieldLink RX0 15 "TriangleSheet$Points" "ys" "[I", Cond.fieldLink RX0 18 "TriangleSheet$Points" "came" "I", Cond.methodLink RX2 18 yX1_init, Cond.instanceMethod yX1_init, Cond.code yX1_init cX1_init 1 none, Cond.methodLink RX1 3 objectInit, Cond.fieldLink RX1 9 "TriangleSheet$Triangles" "corners" "[I", Cond.fieldLink RX1 15 "TriangleSheet$Triangles" "there" "[I", Cond.fieldLink RX1 18 "TriangleSheet$Triangles" "thereCount" "I", Cond.fieldLink RX1 22 "TriangleSheet$Triangles" "came" "I", Cond.methodLink RL 45 yX3_init, Cond.instanceMethod yX3_init, Cond.code yX3_init cX3_init 1 none, Cond.methodLink RX3 1 objectInit, Cond.fieldLink RX3 7 "TriangleSheetModel" "px" "[I", Cond.fieldLink RX3 13 "TriangleSheetModel" "py" "[I", Cond.arrayClass .boolean]
def wsL_law0_r3 : List Cond := [Cond.fieldLink RX3 16 "TriangleSheetModel" "is" "[Z", Cond.fieldLink RX3 20 "TriangleSheetModel" "corners" "[I", Cond.fieldLink RX3 23 "TriangleSheetModel" "first" "I", Cond.fieldLink RX3 27 "TriangleSheetModel" "second" "I", Cond.fieldLink RX3 30 "TriangleSheetModel" "marks" "[I", Cond.methodLink RL 46 yL_point, Cond.static yL_point, Cond.initialized RL, Cond.codeWith yL_point cL_point 5 (some .int) [(0, 10, 13, 13), (0, 10, 17, 15)], Cond.classLink RL 13 "java/lang/IllegalArgumentException", Cond.classLink RL 15 "java/lang/IllegalStateException", Cond.methodLink RL 7 yX2_point, Cond.instanceMethod yX2_point, Cond.selects RX2 yX2_point yX2_point, Cond.code yX2_point cX2_point 3 (some .int), Cond.classLink RX2 42 "java/lang/IllegalArgumentException", Cond.initialized "java/lang/IllegalArgumentException", Cond.classLink RX2 52 "java/lang/IllegalStateException", Cond.initialized "java/lang/IllegalStateException", Cond.methodLink RX2 38 yX2_isPlace, Cond.static yX2_isPlace, Cond.code yX2_isPlace cX2_isPlace 2 (some .boolean), Cond.methodLink RX2 49 yX0_canAdd, Cond.instanceMethod yX0_canAdd]
def wsL_law0_r4 : List Cond := [Cond.selects RX0 yX0_canAdd yX0_canAdd, Cond.code yX0_canAdd cX0_canAdd 3 (some .boolean), Cond.methodLink RX0 22 yX0_pointAt, Cond.instanceMethod yX0_pointAt, Cond.selects RX0 yX0_pointAt yX0_pointAt, Cond.code yX0_pointAt cX0_pointAt 4 (some .int), Cond.methodLink RX2 57 yX0_add, Cond.instanceMethod yX0_add, Cond.selects RX0 yX0_add yX0_add, Cond.code yX0_add cX0_add 4 (some .int), Cond.methodLink RX0 26 yX0_put, Cond.instanceMethod yX0_put, Cond.selects RX0 yX0_put yX0_put, Cond.code yX0_put cX0_put 4 none, Cond.methodLink RL 51 yX3_point, Cond.instanceMethod yX3_point, Cond.selects RX3 yX3_point yX3_point, Cond.code yX3_point cX3_point 3 (some .int), Cond.fieldLink RX3 40 "TriangleSheetModel" "points" "I", Cond.fieldLink RX3 33 "TriangleSheetModel" "thrown" "I", Cond.methodLink RX3 106 yX3_isPlace, Cond.static yX3_isPlace, Cond.code yX3_isPlace cX3_isPlace 2 (some .boolean), Cond.methodLink RX3 46 yX3_in]
def wsL_law0_r5 : List Cond := [Cond.static yX3_in, Cond.code yX3_in cX3_in 2 (some .boolean), Cond.methodLink RX3 109 yX3_pointAt, Cond.instanceMethod yX3_pointAt, Cond.selects RX3 yX3_pointAt yX3_pointAt, Cond.code yX3_pointAt cX3_pointAt 4 (some .int), Cond.methodLink RL 52 yX3_thrown, Cond.instanceMethod yX3_thrown, Cond.selects RX3 yX3_thrown yX3_thrown, Cond.code yX3_thrown cX3_thrown 1 (some .int), Cond.methodLink RL 56 yL_move, Cond.static yL_move, Cond.codeWith yL_move cL_move 5 (some .int) [(0, 7, 10, 21), (0, 7, 14, 13), (0, 7, 18, 15)], Cond.classLink RL 21 "java/lang/IndexOutOfBoundsException", Cond.methodLink RL 17 yX2_move, Cond.instanceMethod yX2_move, Cond.selects RX2 yX2_move yX2_move, Cond.code yX2_move cX2_move 5 none, Cond.classLink RX2 65 "java/lang/IndexOutOfBoundsException", Cond.initialized "java/lang/IndexOutOfBoundsException", Cond.methodLink RX2 61 yX0_isPoint, Cond.instanceMethod yX0_isPoint, Cond.selects RX0 yX0_isPoint yX0_isPoint, Cond.code yX0_isPoint cX0_isPoint 2 (some .boolean)]
def wsL_law0_r6 : List Cond := [Cond.methodLink RX2 70 yX0_pointAt, Cond.methodLink RX2 75 yX0_put, Cond.methodLink RL 59 yX3_move, Cond.instanceMethod yX3_move, Cond.selects RX3 yX3_move yX3_move, Cond.code yX3_move cX3_move 5 none, Cond.methodLink RL 60 yL_triangle, Cond.static yL_triangle, Cond.codeWith yL_triangle cL_triangle 6 (some .int) [(0, 12, 15, 21), (0, 12, 19, 13), (0, 12, 23, 15)], Cond.methodLink RL 23 yX2_triangle, Cond.instanceMethod yX2_triangle, Cond.selects RX2 yX2_triangle yX2_triangle, Cond.code yX2_triangle cX2_triangle 4 (some .int), Cond.methodLink RX2 83 yX1_canAdd, Cond.instanceMethod yX1_canAdd, Cond.selects RX1 yX1_canAdd yX1_canAdd, Cond.code yX1_canAdd cX1_canAdd 2 (some .boolean), Cond.methodLink RX2 87 yX1_add, Cond.instanceMethod yX1_add, Cond.selects RX1 yX1_add yX1_add, Cond.code yX1_add cX1_add 5 (some .int), Cond.methodLink RX1 25 yX1_put, Cond.instanceMethod yX1_put, Cond.selects RX1 yX1_put yX1_put]
def wsL_law0_r7 : List Cond := [Cond.code yX1_put cX1_put 5 none, Cond.methodLink RL 63 yX3_triangle, Cond.instanceMethod yX3_triangle, Cond.selects RX3 yX3_triangle yX3_triangle, Cond.code yX3_triangle cX3_triangle 4 (some .int), Cond.fieldLink RX3 112 "TriangleSheetModel" "there" "I", Cond.fieldLink RX3 43 "TriangleSheetModel" "came" "I", Cond.methodLink RX3 115 yX3_add, Cond.instanceMethod yX3_add, Cond.selects RX3 yX3_add yX3_add, Cond.code yX3_add cX3_add 4 (some .int), Cond.methodLink RX3 102 yX3_set, Cond.instanceMethod yX3_set, Cond.selects RX3 yX3_set yX3_set, Cond.code yX3_set cX3_set 5 none, Cond.methodLink RL 64 yL_take, Cond.static yL_take, Cond.codeWith yL_take cL_take 3 (some .int) [(0, 5, 8, 21)], Cond.methodLink RL 27 yX2_take, Cond.instanceMethod yX2_take, Cond.selects RX2 yX2_take yX2_take, Cond.code yX2_take cX2_take 2 none, Cond.methodLink RX2 90 yX1_isThere, Cond.instanceMethod yX1_isThere]
def wsL_law0_r8 : List Cond := [Cond.selects RX1 yX1_isThere yX1_isThere, Cond.code yX1_isThere cX1_isThere 3 (some .boolean), Cond.methodLink RX2 95 yX1_remove, Cond.instanceMethod yX1_remove, Cond.selects RX1 yX1_remove yX1_remove, Cond.code yX1_remove cX1_remove 4 none, Cond.methodLink RL 67 yX3_take, Cond.instanceMethod yX3_take, Cond.selects RX3 yX3_take yX3_take, Cond.code yX3_take cX3_take 2 none, Cond.methodLink RX3 81 yX3_isThere, Cond.instanceMethod yX3_isThere, Cond.selects RX3 yX3_isThere yX3_isThere, Cond.code yX3_isThere cX3_isThere 2 (some .boolean), Cond.methodLink RL 68 yL_part, Cond.static yL_part, Cond.codeWith yL_part cL_part 6 (some .int) [(0, 12, 15, 21), (0, 12, 19, 13), (0, 12, 23, 15)], Cond.methodLink RL 31 yX2_part, Cond.instanceMethod yX2_part, Cond.selects RX2 yX2_part yX2_part, Cond.code yX2_part cX2_part 8 (some .int), Cond.methodLink RX2 99 yX2_isWithin, Cond.instanceMethod yX2_isWithin, Cond.selects RX2 yX2_isWithin yX2_isWithin]
def wsL_law0_r9 : List Cond := [Cond.code yX2_isWithin cX2_isWithin 5 (some .boolean), Cond.methodLink RX2 198 yX2_turnBesideEdge, Cond.instanceMethod yX2_turnBesideEdge, Cond.selects RX2 yX2_turnBesideEdge yX2_turnBesideEdge, Cond.code yX2_turnBesideEdge cX2_turnBesideEdge 5 (some .int), Cond.methodLink RX2 107 yX1_cornerOf, Cond.instanceMethod yX1_cornerOf, Cond.selects RX1 yX1_cornerOf yX1_cornerOf, Cond.code yX1_cornerOf cX1_cornerOf 3 (some .int), Cond.methodLink RX2 194 yX0_turnAt, Cond.instanceMethod yX0_turnAt, Cond.selects RX0 yX0_turnAt yX0_turnAt, Cond.code yX0_turnAt cX0_turnAt 5 (some .int), Cond.methodLink RX2 110 yX1_put, Cond.methodLink RL 70 yX3_part, Cond.instanceMethod yX3_part, Cond.selects RX3 yX3_part yX3_part, Cond.code yX3_part cX3_part 12 (some .int), Cond.methodLink RX3 50 yX3_at, Cond.instanceMethod yX3_at, Cond.selects RX3 yX3_at yX3_at, Cond.code yX3_at cX3_at 3 (some .int), Cond.methodLink RX3 36 yX3_turnOf, Cond.static yX3_turnOf]
def wsL_law0_r10 : List Cond := [Cond.code yX3_turnOf cX3_turnOf 12 (some .long), Cond.methodLink RX3 118 yX3_point, Cond.methodLink RL 71 yL_turn, Cond.static yL_turn, Cond.codeWith yL_turn cL_turn 5 (some .int) [(0, 17, 20, 21)], Cond.methodLink RL 34 yX2_turn, Cond.instanceMethod yX2_turn, Cond.selects RX2 yX2_turn yX2_turn, Cond.code yX2_turn cX2_turn 3 (some .boolean), Cond.methodLink RX2 113 yX2_isEdge, Cond.instanceMethod yX2_isEdge, Cond.selects RX2 yX2_isEdge yX2_isEdge, Cond.code yX2_isEdge cX2_isEdge 3 (some .boolean), Cond.methodLink RX2 118 yX2_turnEdge, Cond.instanceMethod yX2_turnEdge, Cond.selects RX2 yX2_turnEdge yX2_turnEdge, Cond.code yX2_turnEdge cX2_turnEdge 8 (some .boolean), Cond.methodLink RX2 164 yX1_neighbour, Cond.instanceMethod yX1_neighbour, Cond.selects RX1 yX1_neighbour yX1_neighbour, Cond.code yX1_neighbour cX1_neighbour 6 (some .int), Cond.methodLink RX1 29 yX1_cornerOf, Cond.methodLink RX1 33 yX1_hasEdge, Cond.instanceMethod yX1_hasEdge]
def wsL_law0_r11 : List Cond := [Cond.selects RX1 yX1_hasEdge yX1_hasEdge, Cond.code yX1_hasEdge cX1_hasEdge 7 (some .boolean), Cond.methodLink RX2 275 yX1_thirdCorner, Cond.instanceMethod yX1_thirdCorner, Cond.selects RX1 yX1_thirdCorner yX1_thirdCorner, Cond.code yX1_thirdCorner cX1_thirdCorner 4 (some .int), Cond.methodLink RX2 189 yX0_turnOf, Cond.instanceMethod yX0_turnOf, Cond.selects RX0 yX0_turnOf yX0_turnOf, Cond.code yX0_turnOf cX0_turnOf 4 (some .int), Cond.methodLink RX0 30 yX0_turnAt, Cond.methodLink RL 73 yX3_turn, Cond.instanceMethod yX3_turn, Cond.selects RX3 yX3_turn yX3_turn, Cond.code yX3_turn cX3_turn 3 (some .boolean), Cond.methodLink RX3 121 yX3_turned, Cond.instanceMethod yX3_turned, Cond.selects RX3 yX3_turned yX3_turned, Cond.code yX3_turned cX3_turned 8 (some .boolean), Cond.methodLink RX3 91 yX3_neighbour, Cond.instanceMethod yX3_neighbour, Cond.selects RX3 yX3_neighbour yX3_neighbour, Cond.code yX3_neighbour cX3_neighbour 5 (some .int), Cond.methodLink RX3 94 yX3_beyond]
def wsL_law0_r12 : List Cond := [Cond.instanceMethod yX3_beyond, Cond.selects RX3 yX3_beyond yX3_beyond, Cond.code yX3_beyond cX3_beyond 5 (some .int), Cond.methodLink RX3 54 yX3_turnOfPoints, Cond.instanceMethod yX3_turnOfPoints, Cond.selects RX3 yX3_turnOfPoints yX3_turnOfPoints, Cond.code yX3_turnOfPoints cX3_turnOfPoints 4 (some .long), Cond.methodLink RL 74 yL_improve, Cond.static yL_improve, Cond.codeWith yL_improve cL_improve 4 (some .int) [(0, 9, 12, 13)], Cond.methodLink RL 38 yX2_improve, Cond.instanceMethod yX2_improve, Cond.selects RX2 yX2_improve yX2_improve, Cond.code yX2_improve cX2_improve 3 (some .int), Cond.methodLink RX2 123 yX2_turnFirstBadEdge, Cond.instanceMethod yX2_turnFirstBadEdge, Cond.selects RX2 yX2_turnFirstBadEdge yX2_turnFirstBadEdge, Cond.code yX2_turnFirstBadEdge cX2_turnFirstBadEdge 4 (some .boolean), Cond.methodLink RX2 127 yX1_thereCount, Cond.instanceMethod yX1_thereCount, Cond.selects RX1 yX1_thereCount yX1_thereCount, Cond.code yX1_thereCount cX1_thereCount 1 (some .int), Cond.methodLink RX2 131 yX1_numberAt, Cond.instanceMethod yX1_numberAt]
def wsL_law0_r13 : List Cond := [Cond.selects RX1 yX1_numberAt yX1_numberAt, Cond.code yX1_numberAt cX1_numberAt 2 (some .int), Cond.methodLink RX2 167 yX2_isGoodEdge, Cond.instanceMethod yX2_isGoodEdge, Cond.selects RX2 yX2_isGoodEdge yX2_isGoodEdge, Cond.code yX2_isGoodEdge cX2_isGoodEdge 7 (some .boolean), Cond.methodLink RX2 278 yX0_circleSide, Cond.instanceMethod yX0_circleSide, Cond.selects RX0 yX0_circleSide yX0_circleSide, Cond.code yX0_circleSide cX0_circleSide 17 (some .long), Cond.methodLink RL 77 yX3_improve, Cond.instanceMethod yX3_improve, Cond.selects RX3 yX3_improve yX3_improve, Cond.code yX3_improve cX3_improve 3 (some .int), Cond.methodLink RX3 127 yX3_improves, Cond.instanceMethod yX3_improves, Cond.selects RX3 yX3_improves yX3_improves, Cond.code yX3_improves cX3_improves 3 (some .boolean), Cond.methodLink RX3 124 yX3_good, Cond.instanceMethod yX3_good, Cond.selects RX3 yX3_good yX3_good, Cond.code yX3_good cX3_good 17 (some .boolean), Cond.methodLink RX3 98 yX3_determinant, Cond.static yX3_determinant]
def wsL_law0_r14 : List Cond := [Cond.code yX3_determinant cX3_determinant 18 (some .long), Cond.methodLink RL 78 yX2_fault, Cond.instanceMethod yX2_fault, Cond.selects RX2 yX2_fault yX2_fault, Cond.code yX2_fault cX2_fault 4 (some .int), Cond.methodLink RX2 135 yX2_isRight, Cond.instanceMethod yX2_isRight, Cond.selects RX2 yX2_isRight yX2_isRight, Cond.code yX2_isRight cX2_isRight 2 (some .boolean), Cond.methodLink RX2 192 yX2_turnOf, Cond.instanceMethod yX2_turnOf, Cond.selects RX2 yX2_turnOf yX2_turnOf, Cond.code yX2_turnOf cX2_turnOf 2 (some .int), Cond.methodLink RX2 138 yX2_rememberCulprits, Cond.instanceMethod yX2_rememberCulprits, Cond.selects RX2 yX2_rememberCulprits yX2_rememberCulprits, Cond.code yX2_rememberCulprits cX2_rememberCulprits 3 none, Cond.methodLink RX2 142 yX2_firstUntidyBefore, Cond.instanceMethod yX2_firstUntidyBefore, Cond.selects RX2 yX2_firstUntidyBefore yX2_firstUntidyBefore, Cond.code yX2_firstUntidyBefore cX2_firstUntidyBefore 5 (some .int), Cond.methodLink RX2 253 yX2_areTidy, Cond.instanceMethod yX2_areTidy, Cond.selects RX2 yX2_areTidy yX2_areTidy]
def wsL_law0_r15 : List Cond := [Cond.code yX2_areTidy cX2_areTidy 3 (some .boolean), Cond.methodLink RX2 256 yX2_areFarApart, Cond.instanceMethod yX2_areFarApart, Cond.selects RX2 yX2_areFarApart yX2_areFarApart, Cond.code yX2_areFarApart cX2_areFarApart 3 (some .boolean), Cond.methodLink RX2 233 yX2_rightmost, Cond.instanceMethod yX2_rightmost, Cond.selects RX2 yX2_rightmost yX2_rightmost, Cond.code yX2_rightmost cX2_rightmost 2 (some .int), Cond.methodLink RX2 239 Lib.Math.max.name, Cond.static Lib.Math.max.name, Cond.initialized "java/lang/Math", Cond.code Lib.Math.max.name Lib.Math.max.code 2 (some .int), Cond.methodLink RX2 244 yX2_cornerX, Cond.instanceMethod yX2_cornerX, Cond.selects RX2 yX2_cornerX yX2_cornerX, Cond.code yX2_cornerX cX2_cornerX 3 (some .int), Cond.methodLink RX2 213 yX0_x, Cond.instanceMethod yX0_x, Cond.selects RX0 yX0_x yX0_x, Cond.code yX0_x cX0_x 2 (some .int), Cond.methodLink RX2 236 yX2_leftmost, Cond.instanceMethod yX2_leftmost, Cond.selects RX2 yX2_leftmost yX2_leftmost]
def wsL_law0_r16 : List Cond := [Cond.code yX2_leftmost cX2_leftmost 2 (some .int), Cond.methodLink RX2 247 Lib.Math.min.name, Cond.static Lib.Math.min.name, Cond.code Lib.Math.min.name Lib.Math.min.code 2 (some .int), Cond.methodLink RX2 230 yX2_highest, Cond.instanceMethod yX2_highest, Cond.selects RX2 yX2_highest yX2_highest, Cond.code yX2_highest cX2_highest 2 (some .int), Cond.methodLink RX2 250 yX2_cornerY, Cond.instanceMethod yX2_cornerY, Cond.selects RX2 yX2_cornerY yX2_cornerY, Cond.code yX2_cornerY cX2_cornerY 3 (some .int), Cond.methodLink RX2 210 yX0_y, Cond.instanceMethod yX0_y, Cond.selects RX0 yX0_y yX0_y, Cond.code yX0_y cX0_y 2 (some .int), Cond.methodLink RX2 227 yX2_lowest, Cond.instanceMethod yX2_lowest, Cond.selects RX2 yX2_lowest yX2_lowest, Cond.code yX2_lowest cX2_lowest 2 (some .int), Cond.methodLink RX2 259 yX2_haveSameCorners, Cond.instanceMethod yX2_haveSameCorners, Cond.selects RX2 yX2_haveSameCorners yX2_haveSameCorners, Cond.code yX2_haveSameCorners cX2_haveSameCorners 4 (some .boolean)]
def wsL_law0_r17 : List Cond := [Cond.methodLink RX2 268 yX1_hasCorner, Cond.instanceMethod yX1_hasCorner, Cond.selects RX1 yX1_hasCorner yX1_hasCorner, Cond.code yX1_hasCorner cX1_hasCorner 3 (some .boolean), Cond.methodLink RX2 262 yX2_reachesInto, Cond.instanceMethod yX2_reachesInto, Cond.selects RX2 yX2_reachesInto yX2_reachesInto, Cond.code yX2_reachesInto cX2_reachesInto 5 (some .boolean), Cond.methodLink RX2 161 yX2_hasPlace, Cond.instanceMethod yX2_hasPlace, Cond.selects RX2 yX2_hasPlace yX2_hasPlace, Cond.code yX2_hasPlace cX2_hasPlace 5 (some .boolean), Cond.methodLink RX2 265 yX2_crossesAnEdgeOf, Cond.instanceMethod yX2_crossesAnEdgeOf, Cond.selects RX2 yX2_crossesAnEdgeOf yX2_crossesAnEdgeOf, Cond.code yX2_crossesAnEdgeOf cX2_crossesAnEdgeOf 5 (some .boolean), Cond.methodLink RX2 271 yX0_isCrossing, Cond.instanceMethod yX0_isCrossing, Cond.selects RX0 yX0_isCrossing yX0_isCrossing, Cond.code yX0_isCrossing cX0_isCrossing 5 (some .boolean), Cond.methodLink RX0 34 yX0_turnOf, Cond.methodLink RX0 38 yX0_areOpposite, Cond.static yX0_areOpposite, Cond.code yX0_areOpposite cX0_areOpposite 2 (some .boolean)]
def wsL_law0_r18 : List Cond := [Cond.methodLink RL 81 yX3_fault, Cond.instanceMethod yX3_fault, Cond.selects RX3 yX3_fault yX3_fault, Cond.code yX3_fault cX3_fault 3 (some .int), Cond.methodLink RX3 85 yX3_isRight, Cond.instanceMethod yX3_isRight, Cond.selects RX3 yX3_isRight yX3_isRight, Cond.code yX3_isRight cX3_isRight 2 (some .boolean), Cond.methodLink RX3 58 yX3_twice, Cond.instanceMethod yX3_twice, Cond.selects RX3 yX3_twice yX3_twice, Cond.code yX3_twice cX3_twice 2 (some .long), Cond.methodLink RX3 131 yX3_blame, Cond.instanceMethod yX3_blame, Cond.selects RX3 yX3_blame yX3_blame, Cond.code yX3_blame cX3_blame 4 (some .int), Cond.methodLink RX3 134 yX3_isTidy, Cond.instanceMethod yX3_isTidy, Cond.selects RX3 yX3_isTidy yX3_isTidy, Cond.code yX3_isTidy cX3_isTidy 6 (some .boolean), Cond.methodLink RX3 70 yX3_isCorner, Cond.instanceMethod yX3_isCorner, Cond.selects RX3 yX3_isCorner yX3_isCorner, Cond.code yX3_isCorner cX3_isCorner 3 (some .boolean)]
def wsL_law0_r19 : List Cond := [Cond.methodLink RX3 73 yX3_hasPlace, Cond.instanceMethod yX3_hasPlace, Cond.selects RX3 yX3_hasPlace yX3_hasPlace, Cond.code yX3_hasPlace cX3_hasPlace 8 (some .boolean), Cond.methodLink RX3 77 yX3_isOdd, Cond.instanceMethod yX3_isOdd, Cond.selects RX3 yX3_isOdd yX3_isOdd, Cond.code yX3_isOdd cX3_isOdd 6 (some .boolean), Cond.methodLink RX3 62 yX3_isBetween, Cond.instanceMethod yX3_isBetween, Cond.selects RX3 yX3_isBetween yX3_isBetween, Cond.code yX3_isBetween cX3_isBetween 8 (some .boolean), Cond.methodLink RX3 66 yX3_sign, Cond.static yX3_sign, Cond.code yX3_sign cX3_sign 2 (some .int), Cond.methodLink RL 82 yX2_culprit, Cond.instanceMethod yX2_culprit, Cond.selects RX2 yX2_culprit yX2_culprit, Cond.code yX2_culprit cX2_culprit 2 (some .int), Cond.methodLink RL 85 yX3_culprit, Cond.instanceMethod yX3_culprit, Cond.selects RX3 yX3_culprit yX3_culprit, Cond.code yX3_culprit cX3_culprit 2 (some .int), Cond.methodLink RL 86 yX2_covers]
def wsL_law0_r20 : List Cond := [Cond.instanceMethod yX2_covers, Cond.selects RX2 yX2_covers yX2_covers, Cond.code yX2_covers cX2_covers 5 (some .int), Cond.methodLink RX2 145 yX2_isPixel, Cond.static yX2_isPixel, Cond.code yX2_isPixel cX2_isPixel 2 (some .boolean), Cond.methodLink RX2 148 yX2_coversPixel, Cond.instanceMethod yX2_coversPixel, Cond.selects RX2 yX2_coversPixel yX2_coversPixel, Cond.code yX2_coversPixel cX2_coversPixel 4 (some .boolean), Cond.methodLink RX2 201 yX2_sampleOf, Cond.static yX2_sampleOf, Cond.code yX2_sampleOf cX2_sampleOf 1 (some .int), Cond.methodLink RX2 204 yX2_liesInsideOrOnOwnEdges, Cond.instanceMethod yX2_liesInsideOrOnOwnEdges, Cond.selects RX2 yX2_liesInsideOrOnOwnEdges yX2_liesInsideOrOnOwnEdges, Cond.code yX2_liesInsideOrOnOwnEdges cX2_liesInsideOrOnOwnEdges 6 (some .boolean), Cond.methodLink RX2 207 yX2_ownsEdge, Cond.instanceMethod yX2_ownsEdge, Cond.selects RX2 yX2_ownsEdge yX2_ownsEdge, Cond.code yX2_ownsEdge cX2_ownsEdge 5 (some .boolean), Cond.methodLink RL 89 yX3_covers, Cond.instanceMethod yX3_covers, Cond.selects RX3 yX3_covers yX3_covers]
def wsL_law0_r21 : List Cond := [Cond.code yX3_covers cX3_covers 3 (some .int), Cond.methodLink RX3 137 yX3_howMany, Cond.instanceMethod yX3_howMany, Cond.selects RX3 yX3_howMany yX3_howMany, Cond.code yX3_howMany cX3_howMany 5 (some .int), Cond.methodLink RX3 88 yX3_isCovered, Cond.instanceMethod yX3_isCovered, Cond.selects RX3 yX3_isCovered yX3_isCovered, Cond.code yX3_isCovered cX3_isCovered 10 (some .boolean), Cond.methodLink RL 90 yX2_who, Cond.instanceMethod yX2_who, Cond.selects RX2 yX2_who yX2_who, Cond.code yX2_who cX2_who 5 (some .int), Cond.methodLink RL 93 yX3_who, Cond.instanceMethod yX3_who, Cond.selects RX3 yX3_who yX3_who, Cond.code yX3_who cX3_who 4 (some .int), Cond.methodLink RL 94 yX2_painted, Cond.instanceMethod yX2_painted, Cond.selects RX2 yX2_painted yX2_painted, Cond.code yX2_painted cX2_painted 2 (some .long), Cond.constantLong RX2 159 (-1), Cond.methodLink RX2 151 yX2_paintedPixels, Cond.instanceMethod yX2_paintedPixels]
def wsL_law0_r22 : List Cond := [Cond.selects RX2 yX2_paintedPixels yX2_paintedPixels, Cond.code yX2_paintedPixels cX2_paintedPixels 5 (some .long), Cond.methodLink RX2 216 yX2_paintedInRow, Cond.instanceMethod yX2_paintedInRow, Cond.selects RX2 yX2_paintedInRow yX2_paintedInRow, Cond.code yX2_paintedInRow cX2_paintedInRow 8 (some .int), Cond.methodLink RX2 219 yX2_coveredBits, Cond.instanceMethod yX2_coveredBits, Cond.selects RX2 yX2_coveredBits yX2_coveredBits, Cond.code yX2_coveredBits cX2_coveredBits 6 (some .int), Cond.methodLink RX2 222 yJ6_bitCount_0f7a4, Cond.static yJ6_bitCount_0f7a4, Cond.initialized RJ6, Cond.code yJ6_bitCount_0f7a4 cJ6_bitCount_0f7a4 1 (some .int), Cond.constant RJ6 265 (1431655765), Cond.constant RJ6 266 (858993459), Cond.constant RJ6 267 (252645135), Cond.methodLink RX2 155 yX2_sumOfTurns, Cond.instanceMethod yX2_sumOfTurns, Cond.selects RX2 yX2_sumOfTurns yX2_sumOfTurns, Cond.code yX2_sumOfTurns cX2_sumOfTurns 4 (some .long), Cond.methodLink RL 98 yX3_painted, Cond.instanceMethod yX3_painted, Cond.selects RX3 yX3_painted yX3_painted]
def wsL_law0_r23 : List Cond := [Cond.code yX3_painted cX3_painted 7 (some .long), Cond.constantLong RX3 140 (-1), Cond.methodLink RL 99 yX2_locate, Cond.instanceMethod yX2_locate, Cond.selects RX2 yX2_locate yX2_locate, Cond.code yX2_locate cX2_locate 5 (some .int), Cond.methodLink RL 102 yX3_locate, Cond.instanceMethod yX3_locate, Cond.selects RX3 yX3_locate yX3_locate, Cond.code yX3_locate cX3_locate 4 (some .int), Cond.methodLink RL 103 yX2_beside, Cond.instanceMethod yX2_beside, Cond.selects RX2 yX2_beside yX2_beside, Cond.code yX2_beside cX2_beside 3 (some .int), Cond.methodLink RL 106 yX3_beside, Cond.instanceMethod yX3_beside, Cond.selects RX3 yX3_beside yX3_beside, Cond.code yX3_beside cX3_beside 3 (some .int), Cond.methodLink RL 107 yX2_isGood, Cond.instanceMethod yX2_isGood, Cond.selects RX2 yX2_isGood yX2_isGood, Cond.code yX2_isGood cX2_isGood 3 (some .boolean), Cond.methodLink RL 110 yX3_isGood, Cond.instanceMethod yX3_isGood]
def wsL_law0_r24 : List Cond := [Cond.selects RX3 yX3_isGood yX3_isGood, Cond.code yX3_isGood cX3_isGood 3 (some .boolean), Cond.methodLink RL 111 yX2_corner, Cond.instanceMethod yX2_corner, Cond.selects RX2 yX2_corner yX2_corner, Cond.code yX2_corner cX2_corner 3 (some .int), Cond.methodLink RL 114 yX3_corner, Cond.instanceMethod yX3_corner, Cond.selects RX3 yX3_corner yX3_corner, Cond.code yX3_corner cX3_corner 3 (some .int), Cond.methodLink RL 115 yX2_count, Cond.instanceMethod yX2_count, Cond.selects RX2 yX2_count yX2_count, Cond.code yX2_count cX2_count 2 (some .int), Cond.methodLink RX2 170 yX0_came, Cond.instanceMethod yX0_came, Cond.selects RX0 yX0_came yX0_came, Cond.code yX0_came cX0_came 1 (some .int), Cond.methodLink RX2 173 yX1_came, Cond.instanceMethod yX1_came, Cond.selects RX1 yX1_came yX1_came, Cond.code yX1_came cX1_came 1 (some .int), Cond.methodLink RX2 174 yX2_countCornerPoints, Cond.instanceMethod yX2_countCornerPoints]
def wsL_law0_r25 : List Cond := [Cond.selects RX2 yX2_countCornerPoints yX2_countCornerPoints, Cond.code yX2_countCornerPoints cX2_countCornerPoints 6 (some .int), Cond.methodLink RX2 282 yX2_bitOf, Cond.static yX2_bitOf, Cond.code yX2_bitOf cX2_bitOf 1 (some .long), Cond.methodLink RX2 285 yJ13_bitCount_95d88, Cond.static yJ13_bitCount_95d88, Cond.initialized RJ13, Cond.code yJ13_bitCount_95d88 cJ13_bitCount_95d88 2 (some .int), Cond.constantLong RJ13 314 (6148914691236517205), Cond.constantLong RJ13 316 (3689348814741910323), Cond.constantLong RJ13 318 (1085102592571150095), Cond.methodLink RX2 177 yX2_countDifferentEdges, Cond.instanceMethod yX2_countDifferentEdges, Cond.selects RX2 yX2_countDifferentEdges yX2_countDifferentEdges, Cond.code yX2_countDifferentEdges cX2_countDifferentEdges 6 (some .int), Cond.methodLink RX2 290 yJ7_fill_d0a16, Cond.static yJ7_fill_d0a16, Cond.initialized RJ7, Cond.code yJ7_fill_d0a16 cJ7_fill_d0a16 5 none, Cond.methodLink RX2 180 yX2_countLonelyEdges, Cond.instanceMethod yX2_countLonelyEdges, Cond.selects RX2 yX2_countLonelyEdges yX2_countLonelyEdges, Cond.code yX2_countLonelyEdges cX2_countLonelyEdges 4 (some .int)]
def wsL_law0_r26 : List Cond := [Cond.methodLink RX2 183 yX2_countPieces, Cond.instanceMethod yX2_countPieces, Cond.selects RX2 yX2_countPieces yX2_countPieces, Cond.code yX2_countPieces cX2_countPieces 6 (some .int), Cond.methodLink RX2 296 yX2_renamePiece, Cond.instanceMethod yX2_renamePiece, Cond.selects RX2 yX2_renamePiece yX2_renamePiece, Cond.code yX2_renamePiece cX2_renamePiece 5 none, Cond.methodLink RX2 186 yX2_countBadEdges, Cond.instanceMethod yX2_countBadEdges, Cond.selects RX2 yX2_countBadEdges yX2_countBadEdges, Cond.code yX2_countBadEdges cX2_countBadEdges 4 (some .int), Cond.methodLink RL 118 yX3_count, Cond.instanceMethod yX3_count, Cond.selects RX3 yX3_count yX3_count, Cond.code yX3_count cX3_count 2 (some .int), Cond.methodLink RX3 145 yX3_cornerPoints, Cond.instanceMethod yX3_cornerPoints, Cond.selects RX3 yX3_cornerPoints yX3_cornerPoints, Cond.code yX3_cornerPoints cX3_cornerPoints 5 (some .int), Cond.methodLink RX3 149 yX3_sides, Cond.instanceMethod yX3_sides, Cond.selects RX3 yX3_sides yX3_sides, Cond.code yX3_sides cX3_sides 6 (some .int)]
def wsL_law0_r27 : List Cond := [Cond.methodLink RX3 142 yX3_hasSide, Cond.instanceMethod yX3_hasSide, Cond.selects RX3 yX3_hasSide yX3_hasSide, Cond.code yX3_hasSide cX3_hasSide 5 (some .boolean), Cond.methodLink RX3 152 yX3_edges, Cond.instanceMethod yX3_edges, Cond.selects RX3 yX3_edges yX3_edges, Cond.code yX3_edges cX3_edges 5 (some .int), Cond.methodLink RX3 156 yX3_pieces, Cond.instanceMethod yX3_pieces, Cond.selects RX3 yX3_pieces yX3_pieces, Cond.code yX3_pieces cX3_pieces 6 (some .int)]
def wsL_law0 : List Cond := (wsL_law0_r1 ++ (wsL_law0_r2 ++ (wsL_law0_r3 ++ (wsL_law0_r4 ++ (wsL_law0_r5 ++ (wsL_law0_r6 ++ (wsL_law0_r7 ++ (wsL_law0_r8 ++ (wsL_law0_r9 ++ (wsL_law0_r10 ++ (wsL_law0_r11 ++ (wsL_law0_r12 ++ (wsL_law0_r13 ++ (wsL_law0_r14 ++ (wsL_law0_r15 ++ (wsL_law0_r16 ++ (wsL_law0_r17 ++ (wsL_law0_r18 ++ (wsL_law0_r19 ++ (wsL_law0_r20 ++ (wsL_law0_r21 ++ (wsL_law0_r22 ++ (wsL_law0_r23 ++ (wsL_law0_r24 ++ (wsL_law0_r25 ++ (wsL_law0_r26 ++ wsL_law0_r27)))))))))))))))))))))))))) ++ wsX20 ++ wsX30 ++ wsX00 ++ wsX10 ++ ([] : List Cond)
def wsL_law : List Cond := wsL_law0 ++ (vx_atS RX2 46 "java/lang/IllegalArgumentException" ["java/lang/RuntimeException", "java/lang/Exception"]).filter goodWord ++ (vx_atS RX2 56 "java/lang/IllegalStateException" ["java/lang/RuntimeException", "java/lang/Exception"]).filter goodWord ++ (vx_atS RX2 69 "java/lang/IndexOutOfBoundsException" ["java/lang/RuntimeException", "java/lang/Exception"]).filter goodWord
abbrev vwCl : List vw_C := [(RX0, TX0, 3), (RX1, TX1, 4), (RX2, TX2, 6), (RX3, TX3, 11)]
end
section
theorem dX0_init_0 : decode cX0_init 0 = .ok (.aload_n 0, 1) := by decide +kernel
theorem dX0_init_1 : decode cX0_init 1 = .ok (.invokespecial 3, 3) := by decide +kernel
theorem dX0_init_4 : decode cX0_init 4 = .ok (.aload_n 0, 1) := by decide +kernel
theorem dX0_init_5 : decode cX0_init 5 = .ok (.bipush 60, 2) := by decide +kernel
theorem dX0_init_7 : decode cX0_init 7 = .ok (.newarray .int, 2) := by decide +kernel
theorem dX0_init_9 : decode cX0_init 9 = .ok (.putfield 9, 3) := by decide +kernel
theorem dX0_init_12 : decode cX0_init 12 = .ok (.aload_n 0, 1) := by decide +kernel
theorem dX0_init_13 : decode cX0_init 13 = .ok (.bipush 60, 2) := by decide +kernel
theorem dX0_init_15 : decode cX0_init 15 = .ok (.newarray .int, 2) := by decide +kernel
theorem dX0_init_17 : decode cX0_init 17 = .ok (.putfield 15, 3) := by decide +kernel
theorem dX0_init_20 : decode cX0_init 20 = .ok (.aload_n 0, 1) := by decide +kernel
theorem dX0_init_21 : decode cX0_init 21 = .ok (.iconst 0, 1) := by decide +kernel
theorem dX0_init_22 : decode cX0_init 22 = .ok (.putfield 18, 3) := by decide +kernel
theorem dX0_init_25 : decode cX0_init 25 = .ok (.return_, 1) := by decide +kernel
theorem dX0_came_0 : decode cX0_came 0 = .ok (.aload_n 0, 1) := by decide +kernel
theorem dX0_came_1 : decode cX0_came 1 = .ok (.getfield 18, 3) := by decide +kernel
theorem dX0_came_4 : decode cX0_came 4 = .ok (.ireturn, 1) := by decide +kernel
theorem dX0_isPoint_0 : decode cX0_isPoint 0 = .ok (.iload_n 1, 1) := by decide +kernel
theorem dX0_isPoint_1 : decode cX0_isPoint 1 = .ok (.ifCond .lt 15, 3) := by decide +kernel
theorem dX0_isPoint_4 : decode cX0_isPoint 4 = .ok (.iload_n 1, 1) := by decide +kernel
theorem dX0_isPoint_5 : decode cX0_isPoint 5 = .ok (.aload_n 0, 1) := by decide +kernel
theorem dX0_isPoint_6 : decode cX0_isPoint 6 = .ok (.getfield 18, 3) := by decide +kernel
theorem dX0_isPoint_9 : decode cX0_isPoint 9 = .ok (.if_icmp .ge 7, 3) := by decide +kernel
theorem dX0_isPoint_12 : decode cX0_isPoint 12 = .ok (.iconst 1, 1) := by decide +kernel
theorem dX0_isPoint_13 : decode cX0_isPoint 13 = .ok (.goto 4, 3) := by decide +kernel
theorem dX0_isPoint_16 : decode cX0_isPoint 16 = .ok (.iconst 0, 1) := by decide +kernel
theorem dX0_isPoint_17 : decode cX0_isPoint 17 = .ok (.ireturn, 1) := by decide +kernel
theorem dX0_x_0 : decode cX0_x 0 = .ok (.aload_n 0, 1) := by decide +kernel
theorem dX0_x_1 : decode cX0_x 1 = .ok (.getfield 9, 3) := by decide +kernel
theorem dX0_x_4 : decode cX0_x 4 = .ok (.iload_n 1, 1) := by decide +kernel
theorem dX0_x_5 : decode cX0_x 5 = .ok (.iaload, 1) := by decide +kernel
theorem dX0_x_6 : decode cX0_x 6 = .ok (.ireturn, 1) := by decide +kernel
theorem dX0_y_0 : decode cX0_y 0 = .ok (.aload_n 0, 1) := by decide +kernel
theorem dX0_y_1 : decode cX0_y 1 = .ok (.getfield 15, 3) := by decide +kernel
theorem dX0_y_4 : decode cX0_y 4 = .ok (.iload_n 1, 1) := by decide +kernel
theorem dX0_y_5 : decode cX0_y 5 = .ok (.iaload, 1) := by decide +kernel
theorem dX0_y_6 : decode cX0_y 6 = .ok (.ireturn, 1) := by decide +kernel
theorem dX0_pointAt_0 : decode cX0_pointAt 0 = .ok (.iconst 0, 1) := by decide +kernel
theorem dX0_pointAt_1 : decode cX0_pointAt 1 = .ok (.istore_n 3, 1) := by decide +kernel
theorem dX0_pointAt_2 : decode cX0_pointAt 2 = .ok (.iload_n 3, 1) := by decide +kernel
theorem dX0_pointAt_3 : decode cX0_pointAt 3 = .ok (.aload_n 0, 1) := by decide +kernel
theorem dX0_pointAt_4 : decode cX0_pointAt 4 = .ok (.getfield 18, 3) := by decide +kernel
theorem dX0_pointAt_7 : decode cX0_pointAt 7 = .ok (.if_icmp .ge 31, 3) := by decide +kernel
theorem dX0_pointAt_10 : decode cX0_pointAt 10 = .ok (.aload_n 0, 1) := by decide +kernel
theorem dX0_pointAt_11 : decode cX0_pointAt 11 = .ok (.getfield 9, 3) := by decide +kernel
theorem dX0_pointAt_14 : decode cX0_pointAt 14 = .ok (.iload_n 3, 1) := by decide +kernel
theorem dX0_pointAt_15 : decode cX0_pointAt 15 = .ok (.iaload, 1) := by decide +kernel
theorem dX0_pointAt_16 : decode cX0_pointAt 16 = .ok (.iload_n 1, 1) := by decide +kernel
theorem dX0_pointAt_17 : decode cX0_pointAt 17 = .ok (.if_icmp .ne 15, 3) := by decide +kernel
theorem dX0_pointAt_20 : decode cX0_pointAt 20 = .ok (.aload_n 0, 1) := by decide +kernel
theorem dX0_pointAt_21 : decode cX0_pointAt 21 = .ok (.getfield 15, 3) := by decide +kernel
theorem dX0_pointAt_24 : decode cX0_pointAt 24 = .ok (.iload_n 3, 1) := by decide +kernel
theorem dX0_pointAt_25 : decode cX0_pointAt 25 = .ok (.iaload, 1) := by decide +kernel
theorem dX0_pointAt_26 : decode cX0_pointAt 26 = .ok (.iload_n 2, 1) := by decide +kernel
theorem dX0_pointAt_27 : decode cX0_pointAt 27 = .ok (.if_icmp .ne 5, 3) := by decide +kernel
theorem dX0_pointAt_30 : decode cX0_pointAt 30 = .ok (.iload_n 3, 1) := by decide +kernel
theorem dX0_pointAt_31 : decode cX0_pointAt 31 = .ok (.ireturn, 1) := by decide +kernel
theorem dX0_pointAt_32 : decode cX0_pointAt 32 = .ok (.iinc 3 1, 3) := by decide +kernel
theorem dX0_pointAt_35 : decode cX0_pointAt 35 = .ok (.goto (-33), 3) := by decide +kernel
theorem dX0_pointAt_38 : decode cX0_pointAt 38 = .ok (.iconst (-1), 1) := by decide +kernel
theorem dX0_pointAt_39 : decode cX0_pointAt 39 = .ok (.ireturn, 1) := by decide +kernel
set_option maxRecDepth 20000 in
theorem ggX0_canAdd_X0_pointAt : GoodIn wsX0_canAdd wsX0_pointAt := goodIn_r _ [6, 1, 7, 8, 9, 10, 11] (by decide +kernel) (by decide +kernel)
set_option maxRecDepth 20000 in
theorem gX0_canAdd_X0_pointAt : GoodIn wsX0_canAdd (wsV RX0 22 RX0 yX0_pointAt wsX0_pointAt) := goodIn_app (goodIn_of _ (by decide +kernel)) ggX0_canAdd_X0_pointAt
theorem dX0_canAdd_0 : decode cX0_canAdd 0 = .ok (.aload_n 0, 1) := by decide +kernel
theorem dX0_canAdd_1 : decode cX0_canAdd 1 = .ok (.getfield 18, 3) := by decide +kernel
theorem dX0_canAdd_4 : decode cX0_canAdd 4 = .ok (.bipush 60, 2) := by decide +kernel
theorem dX0_canAdd_6 : decode cX0_canAdd 6 = .ok (.if_icmp .ge 17, 3) := by decide +kernel
theorem dX0_canAdd_9 : decode cX0_canAdd 9 = .ok (.aload_n 0, 1) := by decide +kernel
theorem dX0_canAdd_10 : decode cX0_canAdd 10 = .ok (.iload_n 1, 1) := by decide +kernel
theorem dX0_canAdd_11 : decode cX0_canAdd 11 = .ok (.iload_n 2, 1) := by decide +kernel
theorem dX0_canAdd_12 : decode cX0_canAdd 12 = .ok (.invokevirtual 22, 3) := by decide +kernel
theorem dX0_canAdd_15 : decode cX0_canAdd 15 = .ok (.iconst (-1), 1) := by decide +kernel
theorem dX0_canAdd_16 : decode cX0_canAdd 16 = .ok (.if_icmp .ne 7, 3) := by decide +kernel
theorem dX0_canAdd_19 : decode cX0_canAdd 19 = .ok (.iconst 1, 1) := by decide +kernel
theorem dX0_canAdd_20 : decode cX0_canAdd 20 = .ok (.goto 4, 3) := by decide +kernel
theorem dX0_canAdd_23 : decode cX0_canAdd 23 = .ok (.iconst 0, 1) := by decide +kernel
theorem dX0_canAdd_24 : decode cX0_canAdd 24 = .ok (.ireturn, 1) := by decide +kernel
set_option maxRecDepth 20000 in
theorem ggX0_add_X0_put : GoodIn wsX0_add wsX0_put := goodIn_r _ [6, 7, 8, 9, 10, 11] (by decide +kernel) (by decide +kernel)
set_option maxRecDepth 20000 in
theorem gX0_add_X0_put : GoodIn wsX0_add (wsV RX0 26 RX0 yX0_put wsX0_put) := goodIn_app (goodIn_of _ (by decide +kernel)) ggX0_add_X0_put
theorem dX0_add_0 : decode cX0_add 0 = .ok (.aload_n 0, 1) := by decide +kernel
theorem dX0_add_1 : decode cX0_add 1 = .ok (.getfield 18, 3) := by decide +kernel
theorem dX0_add_4 : decode cX0_add 4 = .ok (.istore_n 3, 1) := by decide +kernel
theorem dX0_add_5 : decode cX0_add 5 = .ok (.aload_n 0, 1) := by decide +kernel
theorem dX0_add_6 : decode cX0_add 6 = .ok (.dup, 1) := by decide +kernel
theorem dX0_add_7 : decode cX0_add 7 = .ok (.getfield 18, 3) := by decide +kernel
theorem dX0_add_10 : decode cX0_add 10 = .ok (.iconst 1, 1) := by decide +kernel
theorem dX0_add_11 : decode cX0_add 11 = .ok (.iadd, 1) := by decide +kernel
theorem dX0_add_12 : decode cX0_add 12 = .ok (.putfield 18, 3) := by decide +kernel
theorem dX0_add_15 : decode cX0_add 15 = .ok (.aload_n 0, 1) := by decide +kernel
theorem dX0_add_16 : decode cX0_add 16 = .ok (.iload_n 3, 1) := by decide +kernel
theorem dX0_add_17 : decode cX0_add 17 = .ok (.iload_n 1, 1) := by decide +kernel
theorem dX0_add_18 : decode cX0_add 18 = .ok (.iload_n 2, 1) := by decide +kernel
theorem dX0_add_19 : decode cX0_add 19 = .ok (.invokevirtual 26, 3) := by decide +kernel
theorem dX0_add_22 : decode cX0_add 22 = .ok (.iload_n 3, 1) := by decide +kernel
theorem dX0_add_23 : decode cX0_add 23 = .ok (.ireturn, 1) := by decide +kernel
theorem dX0_put_0 : decode cX0_put 0 = .ok (.aload_n 0, 1) := by decide +kernel
theorem dX0_put_1 : decode cX0_put 1 = .ok (.getfield 9, 3) := by decide +kernel
theorem dX0_put_4 : decode cX0_put 4 = .ok (.iload_n 1, 1) := by decide +kernel
theorem dX0_put_5 : decode cX0_put 5 = .ok (.iload_n 2, 1) := by decide +kernel
theorem dX0_put_6 : decode cX0_put 6 = .ok (.iastore, 1) := by decide +kernel
theorem dX0_put_7 : decode cX0_put 7 = .ok (.aload_n 0, 1) := by decide +kernel
theorem dX0_put_8 : decode cX0_put 8 = .ok (.getfield 15, 3) := by decide +kernel
theorem dX0_put_11 : decode cX0_put 11 = .ok (.iload_n 1, 1) := by decide +kernel
theorem dX0_put_12 : decode cX0_put 12 = .ok (.iload_n 3, 1) := by decide +kernel
theorem dX0_put_13 : decode cX0_put 13 = .ok (.iastore, 1) := by decide +kernel
theorem dX0_put_14 : decode cX0_put 14 = .ok (.return_, 1) := by decide +kernel
theorem dX0_turnAt_0 : decode cX0_turnAt 0 = .ok (.aload_n 0, 1) := by decide +kernel
theorem dX0_turnAt_1 : decode cX0_turnAt 1 = .ok (.getfield 9, 3) := by decide +kernel
theorem dX0_turnAt_4 : decode cX0_turnAt 4 = .ok (.iload_n 2, 1) := by decide +kernel
theorem dX0_turnAt_5 : decode cX0_turnAt 5 = .ok (.iaload, 1) := by decide +kernel
theorem dX0_turnAt_6 : decode cX0_turnAt 6 = .ok (.aload_n 0, 1) := by decide +kernel
theorem dX0_turnAt_7 : decode cX0_turnAt 7 = .ok (.getfield 9, 3) := by decide +kernel
theorem dX0_turnAt_10 : decode cX0_turnAt 10 = .ok (.iload_n 1, 1) := by decide +kernel
theorem dX0_turnAt_11 : decode cX0_turnAt 11 = .ok (.iaload, 1) := by decide +kernel
theorem dX0_turnAt_12 : decode cX0_turnAt 12 = .ok (.isub, 1) := by decide +kernel
theorem dX0_turnAt_13 : decode cX0_turnAt 13 = .ok (.iload 4, 2) := by decide +kernel
theorem dX0_turnAt_15 : decode cX0_turnAt 15 = .ok (.aload_n 0, 1) := by decide +kernel
theorem dX0_turnAt_16 : decode cX0_turnAt 16 = .ok (.getfield 15, 3) := by decide +kernel
theorem dX0_turnAt_19 : decode cX0_turnAt 19 = .ok (.iload_n 1, 1) := by decide +kernel
theorem dX0_turnAt_20 : decode cX0_turnAt 20 = .ok (.iaload, 1) := by decide +kernel
theorem dX0_turnAt_21 : decode cX0_turnAt 21 = .ok (.isub, 1) := by decide +kernel
theorem dX0_turnAt_22 : decode cX0_turnAt 22 = .ok (.imul, 1) := by decide +kernel
theorem dX0_turnAt_23 : decode cX0_turnAt 23 = .ok (.aload_n 0, 1) := by decide +kernel
theorem dX0_turnAt_24 : decode cX0_turnAt 24 = .ok (.getfield 15, 3) := by decide +kernel
theorem dX0_turnAt_27 : decode cX0_turnAt 27 = .ok (.iload_n 2, 1) := by decide +kernel
theorem dX0_turnAt_28 : decode cX0_turnAt 28 = .ok (.iaload, 1) := by decide +kernel
theorem dX0_turnAt_29 : decode cX0_turnAt 29 = .ok (.aload_n 0, 1) := by decide +kernel
theorem dX0_turnAt_30 : decode cX0_turnAt 30 = .ok (.getfield 15, 3) := by decide +kernel
theorem dX0_turnAt_33 : decode cX0_turnAt 33 = .ok (.iload_n 1, 1) := by decide +kernel
theorem dX0_turnAt_34 : decode cX0_turnAt 34 = .ok (.iaload, 1) := by decide +kernel
theorem dX0_turnAt_35 : decode cX0_turnAt 35 = .ok (.isub, 1) := by decide +kernel
theorem dX0_turnAt_36 : decode cX0_turnAt 36 = .ok (.iload_n 3, 1) := by decide +kernel
theorem dX0_turnAt_37 : decode cX0_turnAt 37 = .ok (.aload_n 0, 1) := by decide +kernel
theorem dX0_turnAt_38 : decode cX0_turnAt 38 = .ok (.getfield 9, 3) := by decide +kernel
theorem dX0_turnAt_41 : decode cX0_turnAt 41 = .ok (.iload_n 1, 1) := by decide +kernel
theorem dX0_turnAt_42 : decode cX0_turnAt 42 = .ok (.iaload, 1) := by decide +kernel
theorem dX0_turnAt_43 : decode cX0_turnAt 43 = .ok (.isub, 1) := by decide +kernel
theorem dX0_turnAt_44 : decode cX0_turnAt 44 = .ok (.imul, 1) := by decide +kernel
theorem dX0_turnAt_45 : decode cX0_turnAt 45 = .ok (.isub, 1) := by decide +kernel
theorem dX0_turnAt_46 : decode cX0_turnAt 46 = .ok (.ireturn, 1) := by decide +kernel
set_option maxRecDepth 20000 in
theorem ggX0_turnOf_X0_turnAt : GoodIn wsX0_turnOf wsX0_turnAt := goodIn_r _ [7, 1, 2, 8, 9, 10] (by decide +kernel) (by decide +kernel)
set_option maxRecDepth 20000 in
theorem gX0_turnOf_X0_turnAt : GoodIn wsX0_turnOf (wsV RX0 30 RX0 yX0_turnAt wsX0_turnAt) := goodIn_app (goodIn_of _ (by decide +kernel)) ggX0_turnOf_X0_turnAt
theorem dX0_turnOf_0 : decode cX0_turnOf 0 = .ok (.aload_n 0, 1) := by decide +kernel
theorem dX0_turnOf_1 : decode cX0_turnOf 1 = .ok (.iload_n 1, 1) := by decide +kernel
theorem dX0_turnOf_2 : decode cX0_turnOf 2 = .ok (.iload_n 2, 1) := by decide +kernel
theorem dX0_turnOf_3 : decode cX0_turnOf 3 = .ok (.aload_n 0, 1) := by decide +kernel
theorem dX0_turnOf_4 : decode cX0_turnOf 4 = .ok (.getfield 9, 3) := by decide +kernel
theorem dX0_turnOf_7 : decode cX0_turnOf 7 = .ok (.iload_n 3, 1) := by decide +kernel
theorem dX0_turnOf_8 : decode cX0_turnOf 8 = .ok (.iaload, 1) := by decide +kernel
theorem dX0_turnOf_9 : decode cX0_turnOf 9 = .ok (.aload_n 0, 1) := by decide +kernel
theorem dX0_turnOf_10 : decode cX0_turnOf 10 = .ok (.getfield 15, 3) := by decide +kernel
theorem dX0_turnOf_13 : decode cX0_turnOf 13 = .ok (.iload_n 3, 1) := by decide +kernel
theorem dX0_turnOf_14 : decode cX0_turnOf 14 = .ok (.iaload, 1) := by decide +kernel
theorem dX0_turnOf_15 : decode cX0_turnOf 15 = .ok (.invokevirtual 30, 3) := by decide +kernel
theorem dX0_turnOf_18 : decode cX0_turnOf 18 = .ok (.ireturn, 1) := by decide +kernel
set_option maxRecDepth 20000 in
theorem ggX0_isCrossing_X0_turnOf : GoodIn wsX0_isCrossing wsX0_turnOf := goodIn_r _ [5, 6, 7, 8, 9, 10, 4, 11, 15, 16, 17] (by decide +kernel) (by decide +kernel)
set_option maxRecDepth 20000 in
theorem gX0_isCrossing_X0_turnOf : GoodIn wsX0_isCrossing (wsV RX0 34 RX0 yX0_turnOf wsX0_turnOf) := goodIn_app (goodIn_of _ (by decide +kernel)) ggX0_isCrossing_X0_turnOf
set_option maxRecDepth 20000 in
theorem ggX0_isCrossing_X0_areOpposite : GoodIn wsX0_isCrossing wsX0_areOpposite := goodIn_r _ [14] (by decide +kernel) (by decide +kernel)
set_option maxRecDepth 20000 in
theorem gX0_isCrossing_X0_areOpposite : GoodIn wsX0_isCrossing (va_wsS RX0 38 yX0_areOpposite wsX0_areOpposite) := goodIn_app (goodIn_of _ (by decide +kernel)) ggX0_isCrossing_X0_areOpposite
theorem dX0_isCrossing_0 : decode cX0_isCrossing 0 = .ok (.aload_n 0, 1) := by decide +kernel
theorem dX0_isCrossing_1 : decode cX0_isCrossing 1 = .ok (.iload_n 1, 1) := by decide +kernel
theorem dX0_isCrossing_2 : decode cX0_isCrossing 2 = .ok (.iload_n 2, 1) := by decide +kernel
theorem dX0_isCrossing_3 : decode cX0_isCrossing 3 = .ok (.iload_n 3, 1) := by decide +kernel
theorem dX0_isCrossing_4 : decode cX0_isCrossing 4 = .ok (.invokevirtual 34, 3) := by decide +kernel
theorem dX0_isCrossing_7 : decode cX0_isCrossing 7 = .ok (.aload_n 0, 1) := by decide +kernel
theorem dX0_isCrossing_8 : decode cX0_isCrossing 8 = .ok (.iload_n 1, 1) := by decide +kernel
theorem dX0_isCrossing_9 : decode cX0_isCrossing 9 = .ok (.iload_n 2, 1) := by decide +kernel
theorem dX0_isCrossing_10 : decode cX0_isCrossing 10 = .ok (.iload 4, 2) := by decide +kernel
theorem dX0_isCrossing_12 : decode cX0_isCrossing 12 = .ok (.invokevirtual 34, 3) := by decide +kernel
theorem dX0_isCrossing_15 : decode cX0_isCrossing 15 = .ok (.invokestatic 38, 3) := by decide +kernel
theorem dX0_isCrossing_18 : decode cX0_isCrossing 18 = .ok (.ifCond .eq 29, 3) := by decide +kernel
theorem dX0_isCrossing_21 : decode cX0_isCrossing 21 = .ok (.aload_n 0, 1) := by decide +kernel
theorem dX0_isCrossing_22 : decode cX0_isCrossing 22 = .ok (.iload_n 3, 1) := by decide +kernel
theorem dX0_isCrossing_23 : decode cX0_isCrossing 23 = .ok (.iload 4, 2) := by decide +kernel
theorem dX0_isCrossing_25 : decode cX0_isCrossing 25 = .ok (.iload_n 1, 1) := by decide +kernel
theorem dX0_isCrossing_26 : decode cX0_isCrossing 26 = .ok (.invokevirtual 34, 3) := by decide +kernel
theorem dX0_isCrossing_29 : decode cX0_isCrossing 29 = .ok (.aload_n 0, 1) := by decide +kernel
theorem dX0_isCrossing_30 : decode cX0_isCrossing 30 = .ok (.iload_n 3, 1) := by decide +kernel
theorem dX0_isCrossing_31 : decode cX0_isCrossing 31 = .ok (.iload 4, 2) := by decide +kernel
theorem dX0_isCrossing_33 : decode cX0_isCrossing 33 = .ok (.iload_n 2, 1) := by decide +kernel
theorem dX0_isCrossing_34 : decode cX0_isCrossing 34 = .ok (.invokevirtual 34, 3) := by decide +kernel
theorem dX0_isCrossing_37 : decode cX0_isCrossing 37 = .ok (.invokestatic 38, 3) := by decide +kernel
theorem dX0_isCrossing_40 : decode cX0_isCrossing 40 = .ok (.ifCond .eq 7, 3) := by decide +kernel
theorem dX0_isCrossing_43 : decode cX0_isCrossing 43 = .ok (.iconst 1, 1) := by decide +kernel
theorem dX0_isCrossing_44 : decode cX0_isCrossing 44 = .ok (.goto 4, 3) := by decide +kernel
theorem dX0_isCrossing_47 : decode cX0_isCrossing 47 = .ok (.iconst 0, 1) := by decide +kernel
theorem dX0_isCrossing_48 : decode cX0_isCrossing 48 = .ok (.ireturn, 1) := by decide +kernel
theorem dX0_areOpposite_0 : decode cX0_areOpposite 0 = .ok (.iload_n 0, 1) := by decide +kernel
theorem dX0_areOpposite_1 : decode cX0_areOpposite 1 = .ok (.ifCond .ge 7, 3) := by decide +kernel
theorem dX0_areOpposite_4 : decode cX0_areOpposite 4 = .ok (.iload_n 1, 1) := by decide +kernel
theorem dX0_areOpposite_5 : decode cX0_areOpposite 5 = .ok (.ifCond .gt 11, 3) := by decide +kernel
theorem dX0_areOpposite_8 : decode cX0_areOpposite 8 = .ok (.iload_n 0, 1) := by decide +kernel
theorem dX0_areOpposite_9 : decode cX0_areOpposite 9 = .ok (.ifCond .le 11, 3) := by decide +kernel
theorem dX0_areOpposite_12 : decode cX0_areOpposite 12 = .ok (.iload_n 1, 1) := by decide +kernel
theorem dX0_areOpposite_13 : decode cX0_areOpposite 13 = .ok (.ifCond .ge 7, 3) := by decide +kernel
theorem dX0_areOpposite_16 : decode cX0_areOpposite 16 = .ok (.iconst 1, 1) := by decide +kernel
theorem dX0_areOpposite_17 : decode cX0_areOpposite 17 = .ok (.goto 4, 3) := by decide +kernel
theorem dX0_areOpposite_20 : decode cX0_areOpposite 20 = .ok (.iconst 0, 1) := by decide +kernel
theorem dX0_areOpposite_21 : decode cX0_areOpposite 21 = .ok (.ireturn, 1) := by decide +kernel
theorem dX0_circleSide_0 : decode cX0_circleSide 0 = .ok (.aload_n 0, 1) := by decide +kernel
theorem dX0_circleSide_1 : decode cX0_circleSide 1 = .ok (.getfield 9, 3) := by decide +kernel
theorem dX0_circleSide_4 : decode cX0_circleSide 4 = .ok (.iload_n 1, 1) := by decide +kernel
theorem dX0_circleSide_5 : decode cX0_circleSide 5 = .ok (.iaload, 1) := by decide +kernel
theorem dX0_circleSide_6 : decode cX0_circleSide 6 = .ok (.aload_n 0, 1) := by decide +kernel
theorem dX0_circleSide_7 : decode cX0_circleSide 7 = .ok (.getfield 9, 3) := by decide +kernel
theorem dX0_circleSide_10 : decode cX0_circleSide 10 = .ok (.iload 4, 2) := by decide +kernel
theorem dX0_circleSide_12 : decode cX0_circleSide 12 = .ok (.iaload, 1) := by decide +kernel
theorem dX0_circleSide_13 : decode cX0_circleSide 13 = .ok (.isub, 1) := by decide +kernel
theorem dX0_circleSide_14 : decode cX0_circleSide 14 = .ok (.i2l, 1) := by decide +kernel
theorem dX0_circleSide_15 : decode cX0_circleSide 15 = .ok (.lstore 5, 2) := by decide +kernel
theorem dX0_circleSide_17 : decode cX0_circleSide 17 = .ok (.aload_n 0, 1) := by decide +kernel
theorem dX0_circleSide_18 : decode cX0_circleSide 18 = .ok (.getfield 15, 3) := by decide +kernel
theorem dX0_circleSide_21 : decode cX0_circleSide 21 = .ok (.iload_n 1, 1) := by decide +kernel
theorem dX0_circleSide_22 : decode cX0_circleSide 22 = .ok (.iaload, 1) := by decide +kernel
theorem dX0_circleSide_23 : decode cX0_circleSide 23 = .ok (.aload_n 0, 1) := by decide +kernel
theorem dX0_circleSide_24 : decode cX0_circleSide 24 = .ok (.getfield 15, 3) := by decide +kernel
theorem dX0_circleSide_27 : decode cX0_circleSide 27 = .ok (.iload 4, 2) := by decide +kernel
theorem dX0_circleSide_29 : decode cX0_circleSide 29 = .ok (.iaload, 1) := by decide +kernel
theorem dX0_circleSide_30 : decode cX0_circleSide 30 = .ok (.isub, 1) := by decide +kernel
theorem dX0_circleSide_31 : decode cX0_circleSide 31 = .ok (.i2l, 1) := by decide +kernel
theorem dX0_circleSide_32 : decode cX0_circleSide 32 = .ok (.lstore 7, 2) := by decide +kernel
theorem dX0_circleSide_34 : decode cX0_circleSide 34 = .ok (.aload_n 0, 1) := by decide +kernel
theorem dX0_circleSide_35 : decode cX0_circleSide 35 = .ok (.getfield 9, 3) := by decide +kernel
theorem dX0_circleSide_38 : decode cX0_circleSide 38 = .ok (.iload_n 2, 1) := by decide +kernel
theorem dX0_circleSide_39 : decode cX0_circleSide 39 = .ok (.iaload, 1) := by decide +kernel
theorem dX0_circleSide_40 : decode cX0_circleSide 40 = .ok (.aload_n 0, 1) := by decide +kernel
theorem dX0_circleSide_41 : decode cX0_circleSide 41 = .ok (.getfield 9, 3) := by decide +kernel
theorem dX0_circleSide_44 : decode cX0_circleSide 44 = .ok (.iload 4, 2) := by decide +kernel
theorem dX0_circleSide_46 : decode cX0_circleSide 46 = .ok (.iaload, 1) := by decide +kernel
theorem dX0_circleSide_47 : decode cX0_circleSide 47 = .ok (.isub, 1) := by decide +kernel
theorem dX0_circleSide_48 : decode cX0_circleSide 48 = .ok (.i2l, 1) := by decide +kernel
theorem dX0_circleSide_49 : decode cX0_circleSide 49 = .ok (.lstore 9, 2) := by decide +kernel
theorem dX0_circleSide_51 : decode cX0_circleSide 51 = .ok (.aload_n 0, 1) := by decide +kernel
theorem dX0_circleSide_52 : decode cX0_circleSide 52 = .ok (.getfield 15, 3) := by decide +kernel
theorem dX0_circleSide_55 : decode cX0_circleSide 55 = .ok (.iload_n 2, 1) := by decide +kernel
theorem dX0_circleSide_56 : decode cX0_circleSide 56 = .ok (.iaload, 1) := by decide +kernel
theorem dX0_circleSide_57 : decode cX0_circleSide 57 = .ok (.aload_n 0, 1) := by decide +kernel
theorem dX0_circleSide_58 : decode cX0_circleSide 58 = .ok (.getfield 15, 3) := by decide +kernel
theorem dX0_circleSide_61 : decode cX0_circleSide 61 = .ok (.iload 4, 2) := by decide +kernel
theorem dX0_circleSide_63 : decode cX0_circleSide 63 = .ok (.iaload, 1) := by decide +kernel
theorem dX0_circleSide_64 : decode cX0_circleSide 64 = .ok (.isub, 1) := by decide +kernel
theorem dX0_circleSide_65 : decode cX0_circleSide 65 = .ok (.i2l, 1) := by decide +kernel
theorem dX0_circleSide_66 : decode cX0_circleSide 66 = .ok (.lstore 11, 2) := by decide +kernel
theorem dX0_circleSide_68 : decode cX0_circleSide 68 = .ok (.aload_n 0, 1) := by decide +kernel
theorem dX0_circleSide_69 : decode cX0_circleSide 69 = .ok (.getfield 9, 3) := by decide +kernel
theorem dX0_circleSide_72 : decode cX0_circleSide 72 = .ok (.iload_n 3, 1) := by decide +kernel
theorem dX0_circleSide_73 : decode cX0_circleSide 73 = .ok (.iaload, 1) := by decide +kernel
theorem dX0_circleSide_74 : decode cX0_circleSide 74 = .ok (.aload_n 0, 1) := by decide +kernel
theorem dX0_circleSide_75 : decode cX0_circleSide 75 = .ok (.getfield 9, 3) := by decide +kernel
theorem dX0_circleSide_78 : decode cX0_circleSide 78 = .ok (.iload 4, 2) := by decide +kernel
theorem dX0_circleSide_80 : decode cX0_circleSide 80 = .ok (.iaload, 1) := by decide +kernel
theorem dX0_circleSide_81 : decode cX0_circleSide 81 = .ok (.isub, 1) := by decide +kernel
theorem dX0_circleSide_82 : decode cX0_circleSide 82 = .ok (.i2l, 1) := by decide +kernel
theorem dX0_circleSide_83 : decode cX0_circleSide 83 = .ok (.lstore 13, 2) := by decide +kernel
theorem dX0_circleSide_85 : decode cX0_circleSide 85 = .ok (.aload_n 0, 1) := by decide +kernel
theorem dX0_circleSide_86 : decode cX0_circleSide 86 = .ok (.getfield 15, 3) := by decide +kernel
theorem dX0_circleSide_89 : decode cX0_circleSide 89 = .ok (.iload_n 3, 1) := by decide +kernel
theorem dX0_circleSide_90 : decode cX0_circleSide 90 = .ok (.iaload, 1) := by decide +kernel
theorem dX0_circleSide_91 : decode cX0_circleSide 91 = .ok (.aload_n 0, 1) := by decide +kernel
theorem dX0_circleSide_92 : decode cX0_circleSide 92 = .ok (.getfield 15, 3) := by decide +kernel
theorem dX0_circleSide_95 : decode cX0_circleSide 95 = .ok (.iload 4, 2) := by decide +kernel
theorem dX0_circleSide_97 : decode cX0_circleSide 97 = .ok (.iaload, 1) := by decide +kernel
theorem dX0_circleSide_98 : decode cX0_circleSide 98 = .ok (.isub, 1) := by decide +kernel
theorem dX0_circleSide_99 : decode cX0_circleSide 99 = .ok (.i2l, 1) := by decide +kernel
theorem dX0_circleSide_100 : decode cX0_circleSide 100 = .ok (.lstore 15, 2) := by decide +kernel
theorem dX0_circleSide_102 : decode cX0_circleSide 102 = .ok (.lload 5, 2) := by decide +kernel
theorem dX0_circleSide_104 : decode cX0_circleSide 104 = .ok (.lload 5, 2) := by decide +kernel
theorem dX0_circleSide_106 : decode cX0_circleSide 106 = .ok (.lmul, 1) := by decide +kernel
theorem dX0_circleSide_107 : decode cX0_circleSide 107 = .ok (.lload 7, 2) := by decide +kernel
theorem dX0_circleSide_109 : decode cX0_circleSide 109 = .ok (.lload 7, 2) := by decide +kernel
theorem dX0_circleSide_111 : decode cX0_circleSide 111 = .ok (.lmul, 1) := by decide +kernel
theorem dX0_circleSide_112 : decode cX0_circleSide 112 = .ok (.ladd, 1) := by decide +kernel
theorem dX0_circleSide_113 : decode cX0_circleSide 113 = .ok (.lload 9, 2) := by decide +kernel
theorem dX0_circleSide_115 : decode cX0_circleSide 115 = .ok (.lload 15, 2) := by decide +kernel
theorem dX0_circleSide_117 : decode cX0_circleSide 117 = .ok (.lmul, 1) := by decide +kernel
theorem dX0_circleSide_118 : decode cX0_circleSide 118 = .ok (.lload 11, 2) := by decide +kernel
theorem dX0_circleSide_120 : decode cX0_circleSide 120 = .ok (.lload 13, 2) := by decide +kernel
theorem dX0_circleSide_122 : decode cX0_circleSide 122 = .ok (.lmul, 1) := by decide +kernel
theorem dX0_circleSide_123 : decode cX0_circleSide 123 = .ok (.lsub, 1) := by decide +kernel
theorem dX0_circleSide_124 : decode cX0_circleSide 124 = .ok (.lmul, 1) := by decide +kernel
theorem dX0_circleSide_125 : decode cX0_circleSide 125 = .ok (.lload 9, 2) := by decide +kernel
theorem dX0_circleSide_127 : decode cX0_circleSide 127 = .ok (.lload 9, 2) := by decide +kernel
theorem dX0_circleSide_129 : decode cX0_circleSide 129 = .ok (.lmul, 1) := by decide +kernel
theorem dX0_circleSide_130 : decode cX0_circleSide 130 = .ok (.lload 11, 2) := by decide +kernel
theorem dX0_circleSide_132 : decode cX0_circleSide 132 = .ok (.lload 11, 2) := by decide +kernel
theorem dX0_circleSide_134 : decode cX0_circleSide 134 = .ok (.lmul, 1) := by decide +kernel
theorem dX0_circleSide_135 : decode cX0_circleSide 135 = .ok (.ladd, 1) := by decide +kernel
theorem dX0_circleSide_136 : decode cX0_circleSide 136 = .ok (.lload 13, 2) := by decide +kernel
theorem dX0_circleSide_138 : decode cX0_circleSide 138 = .ok (.lload 7, 2) := by decide +kernel
theorem dX0_circleSide_140 : decode cX0_circleSide 140 = .ok (.lmul, 1) := by decide +kernel
theorem dX0_circleSide_141 : decode cX0_circleSide 141 = .ok (.lload 15, 2) := by decide +kernel
theorem dX0_circleSide_143 : decode cX0_circleSide 143 = .ok (.lload 5, 2) := by decide +kernel
theorem dX0_circleSide_145 : decode cX0_circleSide 145 = .ok (.lmul, 1) := by decide +kernel
theorem dX0_circleSide_146 : decode cX0_circleSide 146 = .ok (.lsub, 1) := by decide +kernel
theorem dX0_circleSide_147 : decode cX0_circleSide 147 = .ok (.lmul, 1) := by decide +kernel
theorem dX0_circleSide_148 : decode cX0_circleSide 148 = .ok (.ladd, 1) := by decide +kernel
theorem dX0_circleSide_149 : decode cX0_circleSide 149 = .ok (.lload 13, 2) := by decide +kernel
theorem dX0_circleSide_151 : decode cX0_circleSide 151 = .ok (.lload 13, 2) := by decide +kernel
theorem dX0_circleSide_153 : decode cX0_circleSide 153 = .ok (.lmul, 1) := by decide +kernel
theorem dX0_circleSide_154 : decode cX0_circleSide 154 = .ok (.lload 15, 2) := by decide +kernel
theorem dX0_circleSide_156 : decode cX0_circleSide 156 = .ok (.lload 15, 2) := by decide +kernel
theorem dX0_circleSide_158 : decode cX0_circleSide 158 = .ok (.lmul, 1) := by decide +kernel
theorem dX0_circleSide_159 : decode cX0_circleSide 159 = .ok (.ladd, 1) := by decide +kernel
theorem dX0_circleSide_160 : decode cX0_circleSide 160 = .ok (.lload 5, 2) := by decide +kernel
theorem dX0_circleSide_162 : decode cX0_circleSide 162 = .ok (.lload 11, 2) := by decide +kernel
theorem dX0_circleSide_164 : decode cX0_circleSide 164 = .ok (.lmul, 1) := by decide +kernel
theorem dX0_circleSide_165 : decode cX0_circleSide 165 = .ok (.lload 7, 2) := by decide +kernel
theorem dX0_circleSide_167 : decode cX0_circleSide 167 = .ok (.lload 9, 2) := by decide +kernel
theorem dX0_circleSide_169 : decode cX0_circleSide 169 = .ok (.lmul, 1) := by decide +kernel
theorem dX0_circleSide_170 : decode cX0_circleSide 170 = .ok (.lsub, 1) := by decide +kernel
theorem dX0_circleSide_171 : decode cX0_circleSide 171 = .ok (.lmul, 1) := by decide +kernel
theorem dX0_circleSide_172 : decode cX0_circleSide 172 = .ok (.ladd, 1) := by decide +kernel
theorem dX0_circleSide_173 : decode cX0_circleSide 173 = .ok (.lreturn, 1) := by decide +kernel
theorem dX1_init_0 : decode cX1_init 0 = .ok (.aload_n 0, 1) := by decide +kernel
theorem dX1_init_1 : decode cX1_init 1 = .ok (.invokespecial 3, 3) := by decide +kernel
theorem dX1_init_4 : decode cX1_init 4 = .ok (.aload_n 0, 1) := by decide +kernel
theorem dX1_init_5 : decode cX1_init 5 = .ok (.sipush 600, 3) := by decide +kernel
theorem dX1_init_8 : decode cX1_init 8 = .ok (.newarray .int, 2) := by decide +kernel
theorem dX1_init_10 : decode cX1_init 10 = .ok (.putfield 9, 3) := by decide +kernel
theorem dX1_init_13 : decode cX1_init 13 = .ok (.aload_n 0, 1) := by decide +kernel
theorem dX1_init_14 : decode cX1_init 14 = .ok (.bipush 60, 2) := by decide +kernel
theorem dX1_init_16 : decode cX1_init 16 = .ok (.newarray .int, 2) := by decide +kernel
theorem dX1_init_18 : decode cX1_init 18 = .ok (.putfield 15, 3) := by decide +kernel
theorem dX1_init_21 : decode cX1_init 21 = .ok (.aload_n 0, 1) := by decide +kernel
theorem dX1_init_22 : decode cX1_init 22 = .ok (.iconst 0, 1) := by decide +kernel
theorem dX1_init_23 : decode cX1_init 23 = .ok (.putfield 18, 3) := by decide +kernel
theorem dX1_init_26 : decode cX1_init 26 = .ok (.aload_n 0, 1) := by decide +kernel
theorem dX1_init_27 : decode cX1_init 27 = .ok (.iconst 0, 1) := by decide +kernel
theorem dX1_init_28 : decode cX1_init 28 = .ok (.putfield 22, 3) := by decide +kernel
theorem dX1_init_31 : decode cX1_init 31 = .ok (.return_, 1) := by decide +kernel
theorem dX1_came_0 : decode cX1_came 0 = .ok (.aload_n 0, 1) := by decide +kernel
theorem dX1_came_1 : decode cX1_came 1 = .ok (.getfield 22, 3) := by decide +kernel
theorem dX1_came_4 : decode cX1_came 4 = .ok (.ireturn, 1) := by decide +kernel
theorem dX1_thereCount_0 : decode cX1_thereCount 0 = .ok (.aload_n 0, 1) := by decide +kernel
theorem dX1_thereCount_1 : decode cX1_thereCount 1 = .ok (.getfield 18, 3) := by decide +kernel
theorem dX1_thereCount_4 : decode cX1_thereCount 4 = .ok (.ireturn, 1) := by decide +kernel
theorem dX1_numberAt_0 : decode cX1_numberAt 0 = .ok (.aload_n 0, 1) := by decide +kernel
theorem dX1_numberAt_1 : decode cX1_numberAt 1 = .ok (.getfield 15, 3) := by decide +kernel
theorem dX1_numberAt_4 : decode cX1_numberAt 4 = .ok (.iload_n 1, 1) := by decide +kernel
theorem dX1_numberAt_5 : decode cX1_numberAt 5 = .ok (.iaload, 1) := by decide +kernel
theorem dX1_numberAt_6 : decode cX1_numberAt 6 = .ok (.ireturn, 1) := by decide +kernel
theorem dX1_isThere_0 : decode cX1_isThere 0 = .ok (.iconst 0, 1) := by decide +kernel
theorem dX1_isThere_1 : decode cX1_isThere 1 = .ok (.istore_n 2, 1) := by decide +kernel
theorem dX1_isThere_2 : decode cX1_isThere 2 = .ok (.iload_n 2, 1) := by decide +kernel
theorem dX1_isThere_3 : decode cX1_isThere 3 = .ok (.aload_n 0, 1) := by decide +kernel
theorem dX1_isThere_4 : decode cX1_isThere 4 = .ok (.getfield 18, 3) := by decide +kernel
theorem dX1_isThere_7 : decode cX1_isThere 7 = .ok (.if_icmp .ge 21, 3) := by decide +kernel
theorem dX1_isThere_10 : decode cX1_isThere 10 = .ok (.aload_n 0, 1) := by decide +kernel
theorem dX1_isThere_11 : decode cX1_isThere 11 = .ok (.getfield 15, 3) := by decide +kernel
theorem dX1_isThere_14 : decode cX1_isThere 14 = .ok (.iload_n 2, 1) := by decide +kernel
theorem dX1_isThere_15 : decode cX1_isThere 15 = .ok (.iaload, 1) := by decide +kernel
theorem dX1_isThere_16 : decode cX1_isThere 16 = .ok (.iload_n 1, 1) := by decide +kernel
theorem dX1_isThere_17 : decode cX1_isThere 17 = .ok (.if_icmp .ne 5, 3) := by decide +kernel
theorem dX1_isThere_20 : decode cX1_isThere 20 = .ok (.iconst 1, 1) := by decide +kernel
theorem dX1_isThere_21 : decode cX1_isThere 21 = .ok (.ireturn, 1) := by decide +kernel
theorem dX1_isThere_22 : decode cX1_isThere 22 = .ok (.iinc 2 1, 3) := by decide +kernel
theorem dX1_isThere_25 : decode cX1_isThere 25 = .ok (.goto (-23), 3) := by decide +kernel
theorem dX1_isThere_28 : decode cX1_isThere 28 = .ok (.iconst 0, 1) := by decide +kernel
theorem dX1_isThere_29 : decode cX1_isThere 29 = .ok (.ireturn, 1) := by decide +kernel
theorem dX1_canAdd_0 : decode cX1_canAdd 0 = .ok (.aload_n 0, 1) := by decide +kernel
theorem dX1_canAdd_1 : decode cX1_canAdd 1 = .ok (.getfield 18, 3) := by decide +kernel
theorem dX1_canAdd_4 : decode cX1_canAdd 4 = .ok (.iload_n 1, 1) := by decide +kernel
theorem dX1_canAdd_5 : decode cX1_canAdd 5 = .ok (.iadd, 1) := by decide +kernel
theorem dX1_canAdd_6 : decode cX1_canAdd 6 = .ok (.bipush 60, 2) := by decide +kernel
theorem dX1_canAdd_8 : decode cX1_canAdd 8 = .ok (.if_icmp .gt 19, 3) := by decide +kernel
theorem dX1_canAdd_11 : decode cX1_canAdd 11 = .ok (.aload_n 0, 1) := by decide +kernel
theorem dX1_canAdd_12 : decode cX1_canAdd 12 = .ok (.getfield 22, 3) := by decide +kernel
theorem dX1_canAdd_15 : decode cX1_canAdd 15 = .ok (.iload_n 1, 1) := by decide +kernel
theorem dX1_canAdd_16 : decode cX1_canAdd 16 = .ok (.iadd, 1) := by decide +kernel
theorem dX1_canAdd_17 : decode cX1_canAdd 17 = .ok (.sipush 200, 3) := by decide +kernel
theorem dX1_canAdd_20 : decode cX1_canAdd 20 = .ok (.if_icmp .gt 7, 3) := by decide +kernel
theorem dX1_canAdd_23 : decode cX1_canAdd 23 = .ok (.iconst 1, 1) := by decide +kernel
theorem dX1_canAdd_24 : decode cX1_canAdd 24 = .ok (.goto 4, 3) := by decide +kernel
theorem dX1_canAdd_27 : decode cX1_canAdd 27 = .ok (.iconst 0, 1) := by decide +kernel
theorem dX1_canAdd_28 : decode cX1_canAdd 28 = .ok (.ireturn, 1) := by decide +kernel
set_option maxRecDepth 20000 in
theorem ggX1_add_X1_put : GoodIn wsX1_add wsX1_put := goodIn_r _ [8, 9, 10, 11, 12, 13] (by decide +kernel) (by decide +kernel)
set_option maxRecDepth 20000 in
theorem gX1_add_X1_put : GoodIn wsX1_add (wsV RX1 25 RX1 yX1_put wsX1_put) := goodIn_app (goodIn_of _ (by decide +kernel)) ggX1_add_X1_put
theorem dX1_add_0 : decode cX1_add 0 = .ok (.aload_n 0, 1) := by decide +kernel
theorem dX1_add_1 : decode cX1_add 1 = .ok (.getfield 22, 3) := by decide +kernel
theorem dX1_add_4 : decode cX1_add 4 = .ok (.istore 4, 2) := by decide +kernel
theorem dX1_add_6 : decode cX1_add 6 = .ok (.aload_n 0, 1) := by decide +kernel
theorem dX1_add_7 : decode cX1_add 7 = .ok (.dup, 1) := by decide +kernel
theorem dX1_add_8 : decode cX1_add 8 = .ok (.getfield 22, 3) := by decide +kernel
theorem dX1_add_11 : decode cX1_add 11 = .ok (.iconst 1, 1) := by decide +kernel
theorem dX1_add_12 : decode cX1_add 12 = .ok (.iadd, 1) := by decide +kernel
theorem dX1_add_13 : decode cX1_add 13 = .ok (.putfield 22, 3) := by decide +kernel
theorem dX1_add_16 : decode cX1_add 16 = .ok (.aload_n 0, 1) := by decide +kernel
theorem dX1_add_17 : decode cX1_add 17 = .ok (.iload 4, 2) := by decide +kernel
theorem dX1_add_19 : decode cX1_add 19 = .ok (.iload_n 1, 1) := by decide +kernel
theorem dX1_add_20 : decode cX1_add 20 = .ok (.iload_n 2, 1) := by decide +kernel
theorem dX1_add_21 : decode cX1_add 21 = .ok (.iload_n 3, 1) := by decide +kernel
theorem dX1_add_22 : decode cX1_add 22 = .ok (.invokevirtual 25, 3) := by decide +kernel
theorem dX1_add_25 : decode cX1_add 25 = .ok (.aload_n 0, 1) := by decide +kernel
theorem dX1_add_26 : decode cX1_add 26 = .ok (.getfield 15, 3) := by decide +kernel
theorem dX1_add_29 : decode cX1_add 29 = .ok (.aload_n 0, 1) := by decide +kernel
theorem dX1_add_30 : decode cX1_add 30 = .ok (.getfield 18, 3) := by decide +kernel
theorem dX1_add_33 : decode cX1_add 33 = .ok (.iload 4, 2) := by decide +kernel
theorem dX1_add_35 : decode cX1_add 35 = .ok (.iastore, 1) := by decide +kernel
theorem dX1_add_36 : decode cX1_add 36 = .ok (.aload_n 0, 1) := by decide +kernel
theorem dX1_add_37 : decode cX1_add 37 = .ok (.dup, 1) := by decide +kernel
theorem dX1_add_38 : decode cX1_add 38 = .ok (.getfield 18, 3) := by decide +kernel
theorem dX1_add_41 : decode cX1_add 41 = .ok (.iconst 1, 1) := by decide +kernel
theorem dX1_add_42 : decode cX1_add 42 = .ok (.iadd, 1) := by decide +kernel
theorem dX1_add_43 : decode cX1_add 43 = .ok (.putfield 18, 3) := by decide +kernel
theorem dX1_add_46 : decode cX1_add 46 = .ok (.iload 4, 2) := by decide +kernel
theorem dX1_add_48 : decode cX1_add 48 = .ok (.ireturn, 1) := by decide +kernel
theorem dX1_put_0 : decode cX1_put 0 = .ok (.aload_n 0, 1) := by decide +kernel
theorem dX1_put_1 : decode cX1_put 1 = .ok (.getfield 9, 3) := by decide +kernel
theorem dX1_put_4 : decode cX1_put 4 = .ok (.iconst 3, 1) := by decide +kernel
theorem dX1_put_5 : decode cX1_put 5 = .ok (.iload_n 1, 1) := by decide +kernel
theorem dX1_put_6 : decode cX1_put 6 = .ok (.imul, 1) := by decide +kernel
theorem dX1_put_7 : decode cX1_put 7 = .ok (.iload_n 2, 1) := by decide +kernel
theorem dX1_put_8 : decode cX1_put 8 = .ok (.iastore, 1) := by decide +kernel
theorem dX1_put_9 : decode cX1_put 9 = .ok (.aload_n 0, 1) := by decide +kernel
theorem dX1_put_10 : decode cX1_put 10 = .ok (.getfield 9, 3) := by decide +kernel
theorem dX1_put_13 : decode cX1_put 13 = .ok (.iconst 3, 1) := by decide +kernel
theorem dX1_put_14 : decode cX1_put 14 = .ok (.iload_n 1, 1) := by decide +kernel
theorem dX1_put_15 : decode cX1_put 15 = .ok (.imul, 1) := by decide +kernel
theorem dX1_put_16 : decode cX1_put 16 = .ok (.iconst 1, 1) := by decide +kernel
theorem dX1_put_17 : decode cX1_put 17 = .ok (.iadd, 1) := by decide +kernel
theorem dX1_put_18 : decode cX1_put 18 = .ok (.iload_n 3, 1) := by decide +kernel
theorem dX1_put_19 : decode cX1_put 19 = .ok (.iastore, 1) := by decide +kernel
theorem dX1_put_20 : decode cX1_put 20 = .ok (.aload_n 0, 1) := by decide +kernel
theorem dX1_put_21 : decode cX1_put 21 = .ok (.getfield 9, 3) := by decide +kernel
theorem dX1_put_24 : decode cX1_put 24 = .ok (.iconst 3, 1) := by decide +kernel
theorem dX1_put_25 : decode cX1_put 25 = .ok (.iload_n 1, 1) := by decide +kernel
theorem dX1_put_26 : decode cX1_put 26 = .ok (.imul, 1) := by decide +kernel
theorem dX1_put_27 : decode cX1_put 27 = .ok (.iconst 2, 1) := by decide +kernel
theorem dX1_put_28 : decode cX1_put 28 = .ok (.iadd, 1) := by decide +kernel
theorem dX1_put_29 : decode cX1_put 29 = .ok (.iload 4, 2) := by decide +kernel
theorem dX1_put_31 : decode cX1_put 31 = .ok (.iastore, 1) := by decide +kernel
theorem dX1_put_32 : decode cX1_put 32 = .ok (.return_, 1) := by decide +kernel
theorem dX1_remove_0 : decode cX1_remove 0 = .ok (.iconst 0, 1) := by decide +kernel
theorem dX1_remove_1 : decode cX1_remove 1 = .ok (.istore_n 2, 1) := by decide +kernel
theorem dX1_remove_2 : decode cX1_remove 2 = .ok (.iconst 0, 1) := by decide +kernel
theorem dX1_remove_3 : decode cX1_remove 3 = .ok (.istore_n 3, 1) := by decide +kernel
theorem dX1_remove_4 : decode cX1_remove 4 = .ok (.iload_n 3, 1) := by decide +kernel
theorem dX1_remove_5 : decode cX1_remove 5 = .ok (.aload_n 0, 1) := by decide +kernel
theorem dX1_remove_6 : decode cX1_remove 6 = .ok (.getfield 18, 3) := by decide +kernel
theorem dX1_remove_9 : decode cX1_remove 9 = .ok (.if_icmp .ge 34, 3) := by decide +kernel
theorem dX1_remove_12 : decode cX1_remove 12 = .ok (.aload_n 0, 1) := by decide +kernel
theorem dX1_remove_13 : decode cX1_remove 13 = .ok (.getfield 15, 3) := by decide +kernel
theorem dX1_remove_16 : decode cX1_remove 16 = .ok (.iload_n 3, 1) := by decide +kernel
theorem dX1_remove_17 : decode cX1_remove 17 = .ok (.iaload, 1) := by decide +kernel
theorem dX1_remove_18 : decode cX1_remove 18 = .ok (.iload_n 1, 1) := by decide +kernel
theorem dX1_remove_19 : decode cX1_remove 19 = .ok (.if_icmp .eq 18, 3) := by decide +kernel
theorem dX1_remove_22 : decode cX1_remove 22 = .ok (.aload_n 0, 1) := by decide +kernel
theorem dX1_remove_23 : decode cX1_remove 23 = .ok (.getfield 15, 3) := by decide +kernel
theorem dX1_remove_26 : decode cX1_remove 26 = .ok (.iload_n 2, 1) := by decide +kernel
theorem dX1_remove_27 : decode cX1_remove 27 = .ok (.aload_n 0, 1) := by decide +kernel
theorem dX1_remove_28 : decode cX1_remove 28 = .ok (.getfield 15, 3) := by decide +kernel
theorem dX1_remove_31 : decode cX1_remove 31 = .ok (.iload_n 3, 1) := by decide +kernel
theorem dX1_remove_32 : decode cX1_remove 32 = .ok (.iaload, 1) := by decide +kernel
theorem dX1_remove_33 : decode cX1_remove 33 = .ok (.iastore, 1) := by decide +kernel
theorem dX1_remove_34 : decode cX1_remove 34 = .ok (.iinc 2 1, 3) := by decide +kernel
theorem dX1_remove_37 : decode cX1_remove 37 = .ok (.iinc 3 1, 3) := by decide +kernel
theorem dX1_remove_40 : decode cX1_remove 40 = .ok (.goto (-36), 3) := by decide +kernel
theorem dX1_remove_43 : decode cX1_remove 43 = .ok (.aload_n 0, 1) := by decide +kernel
theorem dX1_remove_44 : decode cX1_remove 44 = .ok (.iload_n 2, 1) := by decide +kernel
theorem dX1_remove_45 : decode cX1_remove 45 = .ok (.putfield 18, 3) := by decide +kernel
theorem dX1_remove_48 : decode cX1_remove 48 = .ok (.return_, 1) := by decide +kernel
theorem dX1_cornerOf_0 : decode cX1_cornerOf 0 = .ok (.aload_n 0, 1) := by decide +kernel
theorem dX1_cornerOf_1 : decode cX1_cornerOf 1 = .ok (.getfield 9, 3) := by decide +kernel
theorem dX1_cornerOf_4 : decode cX1_cornerOf 4 = .ok (.iconst 3, 1) := by decide +kernel
theorem dX1_cornerOf_5 : decode cX1_cornerOf 5 = .ok (.iload_n 1, 1) := by decide +kernel
theorem dX1_cornerOf_6 : decode cX1_cornerOf 6 = .ok (.imul, 1) := by decide +kernel
theorem dX1_cornerOf_7 : decode cX1_cornerOf 7 = .ok (.iload_n 2, 1) := by decide +kernel
theorem dX1_cornerOf_8 : decode cX1_cornerOf 8 = .ok (.iconst 3, 1) := by decide +kernel
theorem dX1_cornerOf_9 : decode cX1_cornerOf 9 = .ok (.irem, 1) := by decide +kernel
theorem dX1_cornerOf_10 : decode cX1_cornerOf 10 = .ok (.iadd, 1) := by decide +kernel
theorem dX1_cornerOf_11 : decode cX1_cornerOf 11 = .ok (.iaload, 1) := by decide +kernel
theorem dX1_cornerOf_12 : decode cX1_cornerOf 12 = .ok (.ireturn, 1) := by decide +kernel
theorem dX1_hasCorner_0 : decode cX1_hasCorner 0 = .ok (.aload_n 0, 1) := by decide +kernel
theorem dX1_hasCorner_1 : decode cX1_hasCorner 1 = .ok (.getfield 9, 3) := by decide +kernel
theorem dX1_hasCorner_4 : decode cX1_hasCorner 4 = .ok (.iconst 3, 1) := by decide +kernel
theorem dX1_hasCorner_5 : decode cX1_hasCorner 5 = .ok (.iload_n 1, 1) := by decide +kernel
theorem dX1_hasCorner_6 : decode cX1_hasCorner 6 = .ok (.imul, 1) := by decide +kernel
theorem dX1_hasCorner_7 : decode cX1_hasCorner 7 = .ok (.iaload, 1) := by decide +kernel
theorem dX1_hasCorner_8 : decode cX1_hasCorner 8 = .ok (.iload_n 2, 1) := by decide +kernel
theorem dX1_hasCorner_9 : decode cX1_hasCorner 9 = .ok (.if_icmp .eq 31, 3) := by decide +kernel
theorem dX1_hasCorner_12 : decode cX1_hasCorner 12 = .ok (.aload_n 0, 1) := by decide +kernel
theorem dX1_hasCorner_13 : decode cX1_hasCorner 13 = .ok (.getfield 9, 3) := by decide +kernel
theorem dX1_hasCorner_16 : decode cX1_hasCorner 16 = .ok (.iconst 3, 1) := by decide +kernel
theorem dX1_hasCorner_17 : decode cX1_hasCorner 17 = .ok (.iload_n 1, 1) := by decide +kernel
theorem dX1_hasCorner_18 : decode cX1_hasCorner 18 = .ok (.imul, 1) := by decide +kernel
theorem dX1_hasCorner_19 : decode cX1_hasCorner 19 = .ok (.iconst 1, 1) := by decide +kernel
theorem dX1_hasCorner_20 : decode cX1_hasCorner 20 = .ok (.iadd, 1) := by decide +kernel
theorem dX1_hasCorner_21 : decode cX1_hasCorner 21 = .ok (.iaload, 1) := by decide +kernel
theorem dX1_hasCorner_22 : decode cX1_hasCorner 22 = .ok (.iload_n 2, 1) := by decide +kernel
theorem dX1_hasCorner_23 : decode cX1_hasCorner 23 = .ok (.if_icmp .eq 17, 3) := by decide +kernel
theorem dX1_hasCorner_26 : decode cX1_hasCorner 26 = .ok (.aload_n 0, 1) := by decide +kernel
theorem dX1_hasCorner_27 : decode cX1_hasCorner 27 = .ok (.getfield 9, 3) := by decide +kernel
theorem dX1_hasCorner_30 : decode cX1_hasCorner 30 = .ok (.iconst 3, 1) := by decide +kernel
theorem dX1_hasCorner_31 : decode cX1_hasCorner 31 = .ok (.iload_n 1, 1) := by decide +kernel
theorem dX1_hasCorner_32 : decode cX1_hasCorner 32 = .ok (.imul, 1) := by decide +kernel
theorem dX1_hasCorner_33 : decode cX1_hasCorner 33 = .ok (.iconst 2, 1) := by decide +kernel
theorem dX1_hasCorner_34 : decode cX1_hasCorner 34 = .ok (.iadd, 1) := by decide +kernel
theorem dX1_hasCorner_35 : decode cX1_hasCorner 35 = .ok (.iaload, 1) := by decide +kernel
theorem dX1_hasCorner_36 : decode cX1_hasCorner 36 = .ok (.iload_n 2, 1) := by decide +kernel
theorem dX1_hasCorner_37 : decode cX1_hasCorner 37 = .ok (.if_icmp .ne 7, 3) := by decide +kernel
theorem dX1_hasCorner_40 : decode cX1_hasCorner 40 = .ok (.iconst 1, 1) := by decide +kernel
theorem dX1_hasCorner_41 : decode cX1_hasCorner 41 = .ok (.goto 4, 3) := by decide +kernel
theorem dX1_hasCorner_44 : decode cX1_hasCorner 44 = .ok (.iconst 0, 1) := by decide +kernel
theorem dX1_hasCorner_45 : decode cX1_hasCorner 45 = .ok (.ireturn, 1) := by decide +kernel
theorem dX1_thirdCorner_0 : decode cX1_thirdCorner 0 = .ok (.aload_n 0, 1) := by decide +kernel
theorem dX1_thirdCorner_1 : decode cX1_thirdCorner 1 = .ok (.getfield 9, 3) := by decide +kernel
theorem dX1_thirdCorner_4 : decode cX1_thirdCorner 4 = .ok (.iconst 3, 1) := by decide +kernel
theorem dX1_thirdCorner_5 : decode cX1_thirdCorner 5 = .ok (.iload_n 1, 1) := by decide +kernel
theorem dX1_thirdCorner_6 : decode cX1_thirdCorner 6 = .ok (.imul, 1) := by decide +kernel
theorem dX1_thirdCorner_7 : decode cX1_thirdCorner 7 = .ok (.iaload, 1) := by decide +kernel
theorem dX1_thirdCorner_8 : decode cX1_thirdCorner 8 = .ok (.aload_n 0, 1) := by decide +kernel
theorem dX1_thirdCorner_9 : decode cX1_thirdCorner 9 = .ok (.getfield 9, 3) := by decide +kernel
theorem dX1_thirdCorner_12 : decode cX1_thirdCorner 12 = .ok (.iconst 3, 1) := by decide +kernel
theorem dX1_thirdCorner_13 : decode cX1_thirdCorner 13 = .ok (.iload_n 1, 1) := by decide +kernel
theorem dX1_thirdCorner_14 : decode cX1_thirdCorner 14 = .ok (.imul, 1) := by decide +kernel
theorem dX1_thirdCorner_15 : decode cX1_thirdCorner 15 = .ok (.iconst 1, 1) := by decide +kernel
theorem dX1_thirdCorner_16 : decode cX1_thirdCorner 16 = .ok (.iadd, 1) := by decide +kernel
theorem dX1_thirdCorner_17 : decode cX1_thirdCorner 17 = .ok (.iaload, 1) := by decide +kernel
theorem dX1_thirdCorner_18 : decode cX1_thirdCorner 18 = .ok (.iadd, 1) := by decide +kernel
theorem dX1_thirdCorner_19 : decode cX1_thirdCorner 19 = .ok (.aload_n 0, 1) := by decide +kernel
theorem dX1_thirdCorner_20 : decode cX1_thirdCorner 20 = .ok (.getfield 9, 3) := by decide +kernel
theorem dX1_thirdCorner_23 : decode cX1_thirdCorner 23 = .ok (.iconst 3, 1) := by decide +kernel
theorem dX1_thirdCorner_24 : decode cX1_thirdCorner 24 = .ok (.iload_n 1, 1) := by decide +kernel
theorem dX1_thirdCorner_25 : decode cX1_thirdCorner 25 = .ok (.imul, 1) := by decide +kernel
theorem dX1_thirdCorner_26 : decode cX1_thirdCorner 26 = .ok (.iconst 2, 1) := by decide +kernel
theorem dX1_thirdCorner_27 : decode cX1_thirdCorner 27 = .ok (.iadd, 1) := by decide +kernel
theorem dX1_thirdCorner_28 : decode cX1_thirdCorner 28 = .ok (.iaload, 1) := by decide +kernel
theorem dX1_thirdCorner_29 : decode cX1_thirdCorner 29 = .ok (.iadd, 1) := by decide +kernel
theorem dX1_thirdCorner_30 : decode cX1_thirdCorner 30 = .ok (.iload_n 2, 1) := by decide +kernel
theorem dX1_thirdCorner_31 : decode cX1_thirdCorner 31 = .ok (.isub, 1) := by decide +kernel
theorem dX1_thirdCorner_32 : decode cX1_thirdCorner 32 = .ok (.iload_n 3, 1) := by decide +kernel
theorem dX1_thirdCorner_33 : decode cX1_thirdCorner 33 = .ok (.isub, 1) := by decide +kernel
theorem dX1_thirdCorner_34 : decode cX1_thirdCorner 34 = .ok (.ireturn, 1) := by decide +kernel
theorem dX1_hasEdge_0 : decode cX1_hasEdge 0 = .ok (.aload_n 0, 1) := by decide +kernel
theorem dX1_hasEdge_1 : decode cX1_hasEdge 1 = .ok (.getfield 9, 3) := by decide +kernel
theorem dX1_hasEdge_4 : decode cX1_hasEdge 4 = .ok (.iconst 3, 1) := by decide +kernel
theorem dX1_hasEdge_5 : decode cX1_hasEdge 5 = .ok (.iload_n 1, 1) := by decide +kernel
theorem dX1_hasEdge_6 : decode cX1_hasEdge 6 = .ok (.imul, 1) := by decide +kernel
theorem dX1_hasEdge_7 : decode cX1_hasEdge 7 = .ok (.iaload, 1) := by decide +kernel
theorem dX1_hasEdge_8 : decode cX1_hasEdge 8 = .ok (.istore 4, 2) := by decide +kernel
theorem dX1_hasEdge_10 : decode cX1_hasEdge 10 = .ok (.aload_n 0, 1) := by decide +kernel
theorem dX1_hasEdge_11 : decode cX1_hasEdge 11 = .ok (.getfield 9, 3) := by decide +kernel
theorem dX1_hasEdge_14 : decode cX1_hasEdge 14 = .ok (.iconst 3, 1) := by decide +kernel
theorem dX1_hasEdge_15 : decode cX1_hasEdge 15 = .ok (.iload_n 1, 1) := by decide +kernel
theorem dX1_hasEdge_16 : decode cX1_hasEdge 16 = .ok (.imul, 1) := by decide +kernel
theorem dX1_hasEdge_17 : decode cX1_hasEdge 17 = .ok (.iconst 1, 1) := by decide +kernel
theorem dX1_hasEdge_18 : decode cX1_hasEdge 18 = .ok (.iadd, 1) := by decide +kernel
theorem dX1_hasEdge_19 : decode cX1_hasEdge 19 = .ok (.iaload, 1) := by decide +kernel
theorem dX1_hasEdge_20 : decode cX1_hasEdge 20 = .ok (.istore 5, 2) := by decide +kernel
theorem dX1_hasEdge_22 : decode cX1_hasEdge 22 = .ok (.aload_n 0, 1) := by decide +kernel
theorem dX1_hasEdge_23 : decode cX1_hasEdge 23 = .ok (.getfield 9, 3) := by decide +kernel
theorem dX1_hasEdge_26 : decode cX1_hasEdge 26 = .ok (.iconst 3, 1) := by decide +kernel
theorem dX1_hasEdge_27 : decode cX1_hasEdge 27 = .ok (.iload_n 1, 1) := by decide +kernel
theorem dX1_hasEdge_28 : decode cX1_hasEdge 28 = .ok (.imul, 1) := by decide +kernel
theorem dX1_hasEdge_29 : decode cX1_hasEdge 29 = .ok (.iconst 2, 1) := by decide +kernel
theorem dX1_hasEdge_30 : decode cX1_hasEdge 30 = .ok (.iadd, 1) := by decide +kernel
theorem dX1_hasEdge_31 : decode cX1_hasEdge 31 = .ok (.iaload, 1) := by decide +kernel
theorem dX1_hasEdge_32 : decode cX1_hasEdge 32 = .ok (.istore 6, 2) := by decide +kernel
theorem dX1_hasEdge_34 : decode cX1_hasEdge 34 = .ok (.iload 4, 2) := by decide +kernel
theorem dX1_hasEdge_36 : decode cX1_hasEdge 36 = .ok (.iload_n 2, 1) := by decide +kernel
theorem dX1_hasEdge_37 : decode cX1_hasEdge 37 = .ok (.if_icmp .ne 9, 3) := by decide +kernel
theorem dX1_hasEdge_40 : decode cX1_hasEdge 40 = .ok (.iload 5, 2) := by decide +kernel
theorem dX1_hasEdge_42 : decode cX1_hasEdge 42 = .ok (.iload_n 3, 1) := by decide +kernel
theorem dX1_hasEdge_43 : decode cX1_hasEdge 43 = .ok (.if_icmp .eq 27, 3) := by decide +kernel
theorem dX1_hasEdge_46 : decode cX1_hasEdge 46 = .ok (.iload 5, 2) := by decide +kernel
theorem dX1_hasEdge_48 : decode cX1_hasEdge 48 = .ok (.iload_n 2, 1) := by decide +kernel
theorem dX1_hasEdge_49 : decode cX1_hasEdge 49 = .ok (.if_icmp .ne 9, 3) := by decide +kernel
theorem dX1_hasEdge_52 : decode cX1_hasEdge 52 = .ok (.iload 6, 2) := by decide +kernel
theorem dX1_hasEdge_54 : decode cX1_hasEdge 54 = .ok (.iload_n 3, 1) := by decide +kernel
theorem dX1_hasEdge_55 : decode cX1_hasEdge 55 = .ok (.if_icmp .eq 15, 3) := by decide +kernel
theorem dX1_hasEdge_58 : decode cX1_hasEdge 58 = .ok (.iload 6, 2) := by decide +kernel
theorem dX1_hasEdge_60 : decode cX1_hasEdge 60 = .ok (.iload_n 2, 1) := by decide +kernel
theorem dX1_hasEdge_61 : decode cX1_hasEdge 61 = .ok (.if_icmp .ne 13, 3) := by decide +kernel
theorem dX1_hasEdge_64 : decode cX1_hasEdge 64 = .ok (.iload 4, 2) := by decide +kernel
theorem dX1_hasEdge_66 : decode cX1_hasEdge 66 = .ok (.iload_n 3, 1) := by decide +kernel
theorem dX1_hasEdge_67 : decode cX1_hasEdge 67 = .ok (.if_icmp .ne 7, 3) := by decide +kernel
theorem dX1_hasEdge_70 : decode cX1_hasEdge 70 = .ok (.iconst 1, 1) := by decide +kernel
theorem dX1_hasEdge_71 : decode cX1_hasEdge 71 = .ok (.goto 4, 3) := by decide +kernel
theorem dX1_hasEdge_74 : decode cX1_hasEdge 74 = .ok (.iconst 0, 1) := by decide +kernel
theorem dX1_hasEdge_75 : decode cX1_hasEdge 75 = .ok (.ireturn, 1) := by decide +kernel
set_option maxRecDepth 20000 in
theorem ggX1_neighbour_X1_cornerOf : GoodIn wsX1_neighbour wsX1_cornerOf := goodIn_r _ [7, 8, 13, 14, 15, 16] (by decide +kernel) (by decide +kernel)
set_option maxRecDepth 20000 in
theorem gX1_neighbour_X1_cornerOf : GoodIn wsX1_neighbour (wsV RX1 29 RX1 yX1_cornerOf wsX1_cornerOf) := goodIn_app (goodIn_of _ (by decide +kernel)) ggX1_neighbour_X1_cornerOf
set_option maxRecDepth 20000 in
theorem ggX1_neighbour_X1_hasEdge : GoodIn wsX1_neighbour wsX1_hasEdge := goodIn_r _ [12, 8, 13, 14, 15, 16] (by decide +kernel) (by decide +kernel)
set_option maxRecDepth 20000 in
theorem gX1_neighbour_X1_hasEdge : GoodIn wsX1_neighbour (wsV RX1 33 RX1 yX1_hasEdge wsX1_hasEdge) := goodIn_app (goodIn_of _ (by decide +kernel)) ggX1_neighbour_X1_hasEdge
theorem dX1_neighbour_0 : decode cX1_neighbour 0 = .ok (.aload_n 0, 1) := by decide +kernel
theorem dX1_neighbour_1 : decode cX1_neighbour 1 = .ok (.iload_n 1, 1) := by decide +kernel
theorem dX1_neighbour_2 : decode cX1_neighbour 2 = .ok (.iload_n 2, 1) := by decide +kernel
theorem dX1_neighbour_3 : decode cX1_neighbour 3 = .ok (.invokevirtual 29, 3) := by decide +kernel
theorem dX1_neighbour_6 : decode cX1_neighbour 6 = .ok (.istore_n 3, 1) := by decide +kernel
theorem dX1_neighbour_7 : decode cX1_neighbour 7 = .ok (.aload_n 0, 1) := by decide +kernel
theorem dX1_neighbour_8 : decode cX1_neighbour 8 = .ok (.iload_n 1, 1) := by decide +kernel
theorem dX1_neighbour_9 : decode cX1_neighbour 9 = .ok (.iload_n 2, 1) := by decide +kernel
theorem dX1_neighbour_10 : decode cX1_neighbour 10 = .ok (.iconst 1, 1) := by decide +kernel
theorem dX1_neighbour_11 : decode cX1_neighbour 11 = .ok (.iadd, 1) := by decide +kernel
theorem dX1_neighbour_12 : decode cX1_neighbour 12 = .ok (.invokevirtual 29, 3) := by decide +kernel
theorem dX1_neighbour_15 : decode cX1_neighbour 15 = .ok (.istore 4, 2) := by decide +kernel
theorem dX1_neighbour_17 : decode cX1_neighbour 17 = .ok (.iconst 0, 1) := by decide +kernel
theorem dX1_neighbour_18 : decode cX1_neighbour 18 = .ok (.istore 5, 2) := by decide +kernel
theorem dX1_neighbour_20 : decode cX1_neighbour 20 = .ok (.iload 5, 2) := by decide +kernel
theorem dX1_neighbour_22 : decode cX1_neighbour 22 = .ok (.aload_n 0, 1) := by decide +kernel
theorem dX1_neighbour_23 : decode cX1_neighbour 23 = .ok (.getfield 18, 3) := by decide +kernel
theorem dX1_neighbour_26 : decode cX1_neighbour 26 = .ok (.if_icmp .ge 34, 3) := by decide +kernel
theorem dX1_neighbour_29 : decode cX1_neighbour 29 = .ok (.aload_n 0, 1) := by decide +kernel
theorem dX1_neighbour_30 : decode cX1_neighbour 30 = .ok (.aload_n 0, 1) := by decide +kernel
theorem dX1_neighbour_31 : decode cX1_neighbour 31 = .ok (.getfield 15, 3) := by decide +kernel
theorem dX1_neighbour_34 : decode cX1_neighbour 34 = .ok (.iload 5, 2) := by decide +kernel
theorem dX1_neighbour_36 : decode cX1_neighbour 36 = .ok (.iaload, 1) := by decide +kernel
theorem dX1_neighbour_37 : decode cX1_neighbour 37 = .ok (.iload 4, 2) := by decide +kernel
theorem dX1_neighbour_39 : decode cX1_neighbour 39 = .ok (.iload_n 3, 1) := by decide +kernel
theorem dX1_neighbour_40 : decode cX1_neighbour 40 = .ok (.invokevirtual 33, 3) := by decide +kernel
theorem dX1_neighbour_43 : decode cX1_neighbour 43 = .ok (.ifCond .eq 11, 3) := by decide +kernel
theorem dX1_neighbour_46 : decode cX1_neighbour 46 = .ok (.aload_n 0, 1) := by decide +kernel
theorem dX1_neighbour_47 : decode cX1_neighbour 47 = .ok (.getfield 15, 3) := by decide +kernel
theorem dX1_neighbour_50 : decode cX1_neighbour 50 = .ok (.iload 5, 2) := by decide +kernel
theorem dX1_neighbour_52 : decode cX1_neighbour 52 = .ok (.iaload, 1) := by decide +kernel
theorem dX1_neighbour_53 : decode cX1_neighbour 53 = .ok (.ireturn, 1) := by decide +kernel
theorem dX1_neighbour_54 : decode cX1_neighbour 54 = .ok (.iinc 5 1, 3) := by decide +kernel
theorem dX1_neighbour_57 : decode cX1_neighbour 57 = .ok (.goto (-37), 3) := by decide +kernel
theorem dX1_neighbour_60 : decode cX1_neighbour 60 = .ok (.iconst (-1), 1) := by decide +kernel
theorem dX1_neighbour_61 : decode cX1_neighbour 61 = .ok (.ireturn, 1) := by decide +kernel
end
section
set_option maxRecDepth 20000 in
theorem ggX2_init_X0_init : GoodIn wsX2_init wsX0_init := goodIn_r _ [20, 21, 2, 3, 14, 22, 23, 24, 33, 34, 35] (by decide +kernel) (by decide +kernel)
set_option maxRecDepth 20000 in
theorem gX2_init_X0_init : GoodIn wsX2_init (wsX0_init) := ggX2_init_X0_init
set_option maxRecDepth 20000 in
theorem ggX2_init_X1_init : GoodIn wsX2_init wsX1_init := goodIn_r _ [27, 28, 2, 3, 14, 29, 30, 31, 32, 42, 43, 44, 45] (by decide +kernel) (by decide +kernel)
set_option maxRecDepth 20000 in
theorem gX2_init_X1_init : GoodIn wsX2_init (wsX1_init) := ggX2_init_X1_init
theorem dX2_init_0 : decode cX2_init 0 = .ok (.aload_n 0, 1) := by decide +kernel
theorem dX2_init_1 : decode cX2_init 1 = .ok (.invokespecial 1, 3) := by decide +kernel
theorem dX2_init_4 : decode cX2_init 4 = .ok (.aload_n 0, 1) := by decide +kernel
theorem dX2_init_5 : decode cX2_init 5 = .ok (.new 7, 3) := by decide +kernel
theorem dX2_init_8 : decode cX2_init 8 = .ok (.dup, 1) := by decide +kernel
theorem dX2_init_9 : decode cX2_init 9 = .ok (.invokespecial 9, 3) := by decide +kernel
theorem dX2_init_12 : decode cX2_init 12 = .ok (.putfield 10, 3) := by decide +kernel
theorem dX2_init_15 : decode cX2_init 15 = .ok (.aload_n 0, 1) := by decide +kernel
theorem dX2_init_16 : decode cX2_init 16 = .ok (.new 16, 3) := by decide +kernel
theorem dX2_init_19 : decode cX2_init 19 = .ok (.dup, 1) := by decide +kernel
theorem dX2_init_20 : decode cX2_init 20 = .ok (.invokespecial 18, 3) := by decide +kernel
theorem dX2_init_23 : decode cX2_init 23 = .ok (.putfield 19, 3) := by decide +kernel
theorem dX2_init_26 : decode cX2_init 26 = .ok (.aload_n 0, 1) := by decide +kernel
theorem dX2_init_27 : decode cX2_init 27 = .ok (.bipush 60, 2) := by decide +kernel
theorem dX2_init_29 : decode cX2_init 29 = .ok (.newarray .long, 2) := by decide +kernel
theorem dX2_init_31 : decode cX2_init 31 = .ok (.putfield 23, 3) := by decide +kernel
theorem dX2_init_34 : decode cX2_init 34 = .ok (.aload_n 0, 1) := by decide +kernel
theorem dX2_init_35 : decode cX2_init 35 = .ok (.sipush 200, 3) := by decide +kernel
theorem dX2_init_38 : decode cX2_init 38 = .ok (.newarray .int, 2) := by decide +kernel
theorem dX2_init_40 : decode cX2_init 40 = .ok (.putfield 27, 3) := by decide +kernel
theorem dX2_init_43 : decode cX2_init 43 = .ok (.aload_n 0, 1) := by decide +kernel
theorem dX2_init_44 : decode cX2_init 44 = .ok (.iconst (-1), 1) := by decide +kernel
theorem dX2_init_45 : decode cX2_init 45 = .ok (.putfield 31, 3) := by decide +kernel
theorem dX2_init_48 : decode cX2_init 48 = .ok (.aload_n 0, 1) := by decide +kernel
theorem dX2_init_49 : decode cX2_init 49 = .ok (.iconst (-1), 1) := by decide +kernel
theorem dX2_init_50 : decode cX2_init 50 = .ok (.putfield 35, 3) := by decide +kernel
theorem dX2_init_53 : decode cX2_init 53 = .ok (.return_, 1) := by decide +kernel
set_option maxRecDepth 20000 in
theorem ggX2_point_X2_isPlace : GoodIn wsX2_point wsX2_isPlace := goodIn_r _ [9] (by decide +kernel) (by decide +kernel)
set_option maxRecDepth 20000 in
theorem gX2_point_X2_isPlace : GoodIn wsX2_point (va_wsS RX2 38 yX2_isPlace wsX2_isPlace) := goodIn_app (goodIn_of _ (by decide +kernel)) ggX2_point_X2_isPlace
set_option maxRecDepth 20000 in
theorem ggX2_point_X0_canAdd : GoodIn wsX2_point wsX0_canAdd := goodIn_r _ [14, 15, 16, 17, 18, 13, 19, 20, 21, 36, 37, 38] (by decide +kernel) (by decide +kernel)
set_option maxRecDepth 20000 in
theorem gX2_point_X0_canAdd : GoodIn wsX2_point (wsV RX2 49 RX0 yX0_canAdd wsX0_canAdd) := goodIn_app (goodIn_of _ (by decide +kernel)) ggX2_point_X0_canAdd
set_option maxRecDepth 20000 in
theorem ggX2_point_X0_add : GoodIn wsX2_point wsX0_add := goodIn_r _ [25, 15, 26, 27, 28, 13, 29, 20, 21, 36, 37, 38] (by decide +kernel) (by decide +kernel)
set_option maxRecDepth 20000 in
theorem gX2_point_X0_add : GoodIn wsX2_point (wsV RX2 57 RX0 yX0_add wsX0_add) := goodIn_app (goodIn_of _ (by decide +kernel)) ggX2_point_X0_add
theorem dX2_point_0 : decode cX2_point 0 = .ok (.iload_n 1, 1) := by decide +kernel
theorem dX2_point_1 : decode cX2_point 1 = .ok (.iload_n 2, 1) := by decide +kernel
theorem dX2_point_2 : decode cX2_point 2 = .ok (.invokestatic 38, 3) := by decide +kernel
theorem dX2_point_5 : decode cX2_point 5 = .ok (.ifCond .ne 13, 3) := by decide +kernel
theorem dX2_point_8 : decode cX2_point 8 = .ok (.new 42, 3) := by decide +kernel
theorem dX2_point_11 : decode cX2_point 11 = .ok (.dup, 1) := by decide +kernel
theorem dX2_point_12 : decode cX2_point 12 = .ok (.ldc 44, 2) := by decide +kernel
theorem dX2_point_14 : decode cX2_point 14 = .ok (.invokespecial 46, 3) := by decide +kernel
theorem dX2_point_17 : decode cX2_point 17 = .ok (.athrow, 1) := by decide +kernel
theorem dX2_point_18 : decode cX2_point 18 = .ok (.aload_n 0, 1) := by decide +kernel
theorem dX2_point_19 : decode cX2_point 19 = .ok (.getfield 10, 3) := by decide +kernel
theorem dX2_point_22 : decode cX2_point 22 = .ok (.iload_n 1, 1) := by decide +kernel
theorem dX2_point_23 : decode cX2_point 23 = .ok (.iload_n 2, 1) := by decide +kernel
theorem dX2_point_24 : decode cX2_point 24 = .ok (.invokevirtual 49, 3) := by decide +kernel
theorem dX2_point_27 : decode cX2_point 27 = .ok (.ifCond .ne 13, 3) := by decide +kernel
theorem dX2_point_30 : decode cX2_point 30 = .ok (.new 52, 3) := by decide +kernel
theorem dX2_point_33 : decode cX2_point 33 = .ok (.dup, 1) := by decide +kernel
theorem dX2_point_34 : decode cX2_point 34 = .ok (.ldc 54, 2) := by decide +kernel
theorem dX2_point_36 : decode cX2_point 36 = .ok (.invokespecial 56, 3) := by decide +kernel
theorem dX2_point_39 : decode cX2_point 39 = .ok (.athrow, 1) := by decide +kernel
theorem dX2_point_40 : decode cX2_point 40 = .ok (.aload_n 0, 1) := by decide +kernel
theorem dX2_point_41 : decode cX2_point 41 = .ok (.getfield 10, 3) := by decide +kernel
theorem dX2_point_44 : decode cX2_point 44 = .ok (.iload_n 1, 1) := by decide +kernel
theorem dX2_point_45 : decode cX2_point 45 = .ok (.iload_n 2, 1) := by decide +kernel
theorem dX2_point_46 : decode cX2_point 46 = .ok (.invokevirtual 57, 3) := by decide +kernel
theorem dX2_point_49 : decode cX2_point 49 = .ok (.ireturn, 1) := by decide +kernel
set_option maxRecDepth 20000 in
theorem ggX2_move_X0_isPoint : GoodIn wsX2_move wsX0_isPoint := goodIn_r _ [12, 13, 34, 35, 36] (by decide +kernel) (by decide +kernel)
set_option maxRecDepth 20000 in
theorem gX2_move_X0_isPoint : GoodIn wsX2_move (wsV RX2 61 RX0 yX0_isPoint wsX0_isPoint) := goodIn_app (goodIn_of _ (by decide +kernel)) ggX2_move_X0_isPoint
set_option maxRecDepth 20000 in
theorem ggX2_move_X2_isPlace : GoodIn wsX2_move wsX2_isPlace := goodIn_r _ [17] (by decide +kernel) (by decide +kernel)
set_option maxRecDepth 20000 in
theorem gX2_move_X2_isPlace : GoodIn wsX2_move (va_wsS RX2 38 yX2_isPlace wsX2_isPlace) := goodIn_app (goodIn_of _ (by decide +kernel)) ggX2_move_X2_isPlace
set_option maxRecDepth 20000 in
theorem ggX2_move_X0_pointAt : GoodIn wsX2_move wsX0_pointAt := goodIn_r _ [21, 13, 22, 23, 34, 35, 36] (by decide +kernel) (by decide +kernel)
set_option maxRecDepth 20000 in
theorem gX2_move_X0_pointAt : GoodIn wsX2_move (wsV RX2 70 RX0 yX0_pointAt wsX0_pointAt) := goodIn_app (goodIn_of _ (by decide +kernel)) ggX2_move_X0_pointAt
set_option maxRecDepth 20000 in
theorem ggX2_move_X0_put : GoodIn wsX2_move wsX0_put := goodIn_r _ [27, 22, 23, 34, 35, 36] (by decide +kernel) (by decide +kernel)
set_option maxRecDepth 20000 in
theorem gX2_move_X0_put : GoodIn wsX2_move (wsV RX2 75 RX0 yX0_put wsX0_put) := goodIn_app (goodIn_of _ (by decide +kernel)) ggX2_move_X0_put
theorem dX2_move_0 : decode cX2_move 0 = .ok (.aload_n 0, 1) := by decide +kernel
theorem dX2_move_1 : decode cX2_move 1 = .ok (.getfield 10, 3) := by decide +kernel
theorem dX2_move_4 : decode cX2_move 4 = .ok (.iload_n 1, 1) := by decide +kernel
theorem dX2_move_5 : decode cX2_move 5 = .ok (.invokevirtual 61, 3) := by decide +kernel
theorem dX2_move_8 : decode cX2_move 8 = .ok (.ifCond .ne 13, 3) := by decide +kernel
theorem dX2_move_11 : decode cX2_move 11 = .ok (.new 65, 3) := by decide +kernel
theorem dX2_move_14 : decode cX2_move 14 = .ok (.dup, 1) := by decide +kernel
theorem dX2_move_15 : decode cX2_move 15 = .ok (.ldc 67, 2) := by decide +kernel
theorem dX2_move_17 : decode cX2_move 17 = .ok (.invokespecial 69, 3) := by decide +kernel
theorem dX2_move_20 : decode cX2_move 20 = .ok (.athrow, 1) := by decide +kernel
theorem dX2_move_21 : decode cX2_move 21 = .ok (.iload_n 2, 1) := by decide +kernel
theorem dX2_move_22 : decode cX2_move 22 = .ok (.iload_n 3, 1) := by decide +kernel
theorem dX2_move_23 : decode cX2_move 23 = .ok (.invokestatic 38, 3) := by decide +kernel
theorem dX2_move_26 : decode cX2_move 26 = .ok (.ifCond .ne 13, 3) := by decide +kernel
theorem dX2_move_29 : decode cX2_move 29 = .ok (.new 42, 3) := by decide +kernel
theorem dX2_move_32 : decode cX2_move 32 = .ok (.dup, 1) := by decide +kernel
theorem dX2_move_33 : decode cX2_move 33 = .ok (.ldc 44, 2) := by decide +kernel
theorem dX2_move_35 : decode cX2_move 35 = .ok (.invokespecial 46, 3) := by decide +kernel
theorem dX2_move_38 : decode cX2_move 38 = .ok (.athrow, 1) := by decide +kernel
theorem dX2_move_39 : decode cX2_move 39 = .ok (.aload_n 0, 1) := by decide +kernel
theorem dX2_move_40 : decode cX2_move 40 = .ok (.getfield 10, 3) := by decide +kernel
theorem dX2_move_43 : decode cX2_move 43 = .ok (.iload_n 2, 1) := by decide +kernel
theorem dX2_move_44 : decode cX2_move 44 = .ok (.iload_n 3, 1) := by decide +kernel
theorem dX2_move_45 : decode cX2_move 45 = .ok (.invokevirtual 70, 3) := by decide +kernel
theorem dX2_move_48 : decode cX2_move 48 = .ok (.istore 4, 2) := by decide +kernel
theorem dX2_move_50 : decode cX2_move 50 = .ok (.iload 4, 2) := by decide +kernel
theorem dX2_move_52 : decode cX2_move 52 = .ok (.iconst (-1), 1) := by decide +kernel
theorem dX2_move_53 : decode cX2_move 53 = .ok (.if_icmp .eq 19, 3) := by decide +kernel
theorem dX2_move_56 : decode cX2_move 56 = .ok (.iload 4, 2) := by decide +kernel
theorem dX2_move_58 : decode cX2_move 58 = .ok (.iload_n 1, 1) := by decide +kernel
theorem dX2_move_59 : decode cX2_move 59 = .ok (.if_icmp .eq 13, 3) := by decide +kernel
theorem dX2_move_62 : decode cX2_move 62 = .ok (.new 52, 3) := by decide +kernel
theorem dX2_move_65 : decode cX2_move 65 = .ok (.dup, 1) := by decide +kernel
theorem dX2_move_66 : decode cX2_move 66 = .ok (.ldc 73, 2) := by decide +kernel
theorem dX2_move_68 : decode cX2_move 68 = .ok (.invokespecial 56, 3) := by decide +kernel
theorem dX2_move_71 : decode cX2_move 71 = .ok (.athrow, 1) := by decide +kernel
theorem dX2_move_72 : decode cX2_move 72 = .ok (.aload_n 0, 1) := by decide +kernel
theorem dX2_move_73 : decode cX2_move 73 = .ok (.getfield 10, 3) := by decide +kernel
theorem dX2_move_76 : decode cX2_move 76 = .ok (.iload_n 1, 1) := by decide +kernel
theorem dX2_move_77 : decode cX2_move 77 = .ok (.iload_n 2, 1) := by decide +kernel
theorem dX2_move_78 : decode cX2_move 78 = .ok (.iload_n 3, 1) := by decide +kernel
theorem dX2_move_79 : decode cX2_move 79 = .ok (.invokevirtual 75, 3) := by decide +kernel
theorem dX2_move_82 : decode cX2_move 82 = .ok (.return_, 1) := by decide +kernel
set_option maxRecDepth 20000 in
theorem ggX2_triangle_X0_isPoint : GoodIn wsX2_triangle wsX0_isPoint := goodIn_r _ [13, 14, 38, 39, 40] (by decide +kernel) (by decide +kernel)
set_option maxRecDepth 20000 in
theorem gX2_triangle_X0_isPoint : GoodIn wsX2_triangle (wsV RX2 61 RX0 yX0_isPoint wsX0_isPoint) := goodIn_app (goodIn_of _ (by decide +kernel)) ggX2_triangle_X0_isPoint
set_option maxRecDepth 20000 in
theorem ggX2_triangle_X1_canAdd : GoodIn wsX2_triangle wsX1_canAdd := goodIn_r _ [19, 20, 21, 41, 42, 43, 44] (by decide +kernel) (by decide +kernel)
set_option maxRecDepth 20000 in
theorem gX2_triangle_X1_canAdd : GoodIn wsX2_triangle (wsV RX2 83 RX1 yX1_canAdd wsX1_canAdd) := goodIn_app (goodIn_of _ (by decide +kernel)) ggX2_triangle_X1_canAdd
set_option maxRecDepth 20000 in
theorem ggX2_triangle_X1_add : GoodIn wsX2_triangle wsX1_add := goodIn_r _ [25, 21, 26, 20, 27, 28, 29, 18, 30, 31, 41, 42, 43, 44] (by decide +kernel) (by decide +kernel)
set_option maxRecDepth 20000 in
theorem gX2_triangle_X1_add : GoodIn wsX2_triangle (wsV RX2 87 RX1 yX1_add wsX1_add) := goodIn_app (goodIn_of _ (by decide +kernel)) ggX2_triangle_X1_add
theorem dX2_triangle_0 : decode cX2_triangle 0 = .ok (.aload_n 0, 1) := by decide +kernel
theorem dX2_triangle_1 : decode cX2_triangle 1 = .ok (.getfield 10, 3) := by decide +kernel
theorem dX2_triangle_4 : decode cX2_triangle 4 = .ok (.iload_n 1, 1) := by decide +kernel
theorem dX2_triangle_5 : decode cX2_triangle 5 = .ok (.invokevirtual 61, 3) := by decide +kernel
theorem dX2_triangle_8 : decode cX2_triangle 8 = .ok (.ifCond .eq 25, 3) := by decide +kernel
theorem dX2_triangle_11 : decode cX2_triangle 11 = .ok (.aload_n 0, 1) := by decide +kernel
theorem dX2_triangle_12 : decode cX2_triangle 12 = .ok (.getfield 10, 3) := by decide +kernel
theorem dX2_triangle_15 : decode cX2_triangle 15 = .ok (.iload_n 2, 1) := by decide +kernel
theorem dX2_triangle_16 : decode cX2_triangle 16 = .ok (.invokevirtual 61, 3) := by decide +kernel
theorem dX2_triangle_19 : decode cX2_triangle 19 = .ok (.ifCond .eq 14, 3) := by decide +kernel
theorem dX2_triangle_22 : decode cX2_triangle 22 = .ok (.aload_n 0, 1) := by decide +kernel
theorem dX2_triangle_23 : decode cX2_triangle 23 = .ok (.getfield 10, 3) := by decide +kernel
theorem dX2_triangle_26 : decode cX2_triangle 26 = .ok (.iload_n 3, 1) := by decide +kernel
theorem dX2_triangle_27 : decode cX2_triangle 27 = .ok (.invokevirtual 61, 3) := by decide +kernel
theorem dX2_triangle_30 : decode cX2_triangle 30 = .ok (.ifCond .ne 13, 3) := by decide +kernel
theorem dX2_triangle_33 : decode cX2_triangle 33 = .ok (.new 65, 3) := by decide +kernel
theorem dX2_triangle_36 : decode cX2_triangle 36 = .ok (.dup, 1) := by decide +kernel
theorem dX2_triangle_37 : decode cX2_triangle 37 = .ok (.ldc 79, 2) := by decide +kernel
theorem dX2_triangle_39 : decode cX2_triangle 39 = .ok (.invokespecial 69, 3) := by decide +kernel
theorem dX2_triangle_42 : decode cX2_triangle 42 = .ok (.athrow, 1) := by decide +kernel
theorem dX2_triangle_43 : decode cX2_triangle 43 = .ok (.iload_n 1, 1) := by decide +kernel
theorem dX2_triangle_44 : decode cX2_triangle 44 = .ok (.iload_n 2, 1) := by decide +kernel
theorem dX2_triangle_45 : decode cX2_triangle 45 = .ok (.if_icmp .eq 13, 3) := by decide +kernel
theorem dX2_triangle_48 : decode cX2_triangle 48 = .ok (.iload_n 2, 1) := by decide +kernel
theorem dX2_triangle_49 : decode cX2_triangle 49 = .ok (.iload_n 3, 1) := by decide +kernel
theorem dX2_triangle_50 : decode cX2_triangle 50 = .ok (.if_icmp .eq 8, 3) := by decide +kernel
theorem dX2_triangle_53 : decode cX2_triangle 53 = .ok (.iload_n 3, 1) := by decide +kernel
theorem dX2_triangle_54 : decode cX2_triangle 54 = .ok (.iload_n 1, 1) := by decide +kernel
theorem dX2_triangle_55 : decode cX2_triangle 55 = .ok (.if_icmp .ne 13, 3) := by decide +kernel
theorem dX2_triangle_58 : decode cX2_triangle 58 = .ok (.new 42, 3) := by decide +kernel
theorem dX2_triangle_61 : decode cX2_triangle 61 = .ok (.dup, 1) := by decide +kernel
theorem dX2_triangle_62 : decode cX2_triangle 62 = .ok (.ldc 81, 2) := by decide +kernel
theorem dX2_triangle_64 : decode cX2_triangle 64 = .ok (.invokespecial 46, 3) := by decide +kernel
theorem dX2_triangle_67 : decode cX2_triangle 67 = .ok (.athrow, 1) := by decide +kernel
theorem dX2_triangle_68 : decode cX2_triangle 68 = .ok (.aload_n 0, 1) := by decide +kernel
theorem dX2_triangle_69 : decode cX2_triangle 69 = .ok (.getfield 19, 3) := by decide +kernel
theorem dX2_triangle_72 : decode cX2_triangle 72 = .ok (.iconst 1, 1) := by decide +kernel
theorem dX2_triangle_73 : decode cX2_triangle 73 = .ok (.invokevirtual 83, 3) := by decide +kernel
theorem dX2_triangle_76 : decode cX2_triangle 76 = .ok (.ifCond .ne 13, 3) := by decide +kernel
theorem dX2_triangle_79 : decode cX2_triangle 79 = .ok (.new 52, 3) := by decide +kernel
theorem dX2_triangle_82 : decode cX2_triangle 82 = .ok (.dup, 1) := by decide +kernel
theorem dX2_triangle_83 : decode cX2_triangle 83 = .ok (.ldc 85, 2) := by decide +kernel
theorem dX2_triangle_85 : decode cX2_triangle 85 = .ok (.invokespecial 56, 3) := by decide +kernel
theorem dX2_triangle_88 : decode cX2_triangle 88 = .ok (.athrow, 1) := by decide +kernel
theorem dX2_triangle_89 : decode cX2_triangle 89 = .ok (.aload_n 0, 1) := by decide +kernel
theorem dX2_triangle_90 : decode cX2_triangle 90 = .ok (.getfield 19, 3) := by decide +kernel
theorem dX2_triangle_93 : decode cX2_triangle 93 = .ok (.iload_n 1, 1) := by decide +kernel
theorem dX2_triangle_94 : decode cX2_triangle 94 = .ok (.iload_n 2, 1) := by decide +kernel
theorem dX2_triangle_95 : decode cX2_triangle 95 = .ok (.iload_n 3, 1) := by decide +kernel
theorem dX2_triangle_96 : decode cX2_triangle 96 = .ok (.invokevirtual 87, 3) := by decide +kernel
theorem dX2_triangle_99 : decode cX2_triangle 99 = .ok (.ireturn, 1) := by decide +kernel
set_option maxRecDepth 20000 in
theorem ggX2_take_X1_isThere : GoodIn wsX2_take wsX1_isThere := goodIn_r _ [8, 9, 10, 21, 22, 23, 24] (by decide +kernel) (by decide +kernel)
set_option maxRecDepth 20000 in
theorem gX2_take_X1_isThere : GoodIn wsX2_take (wsV RX2 90 RX1 yX1_isThere wsX1_isThere) := goodIn_app (goodIn_of _ (by decide +kernel)) ggX2_take_X1_isThere
set_option maxRecDepth 20000 in
theorem ggX2_take_X1_remove : GoodIn wsX2_take wsX1_remove := goodIn_r _ [14, 9, 10, 21, 22, 23, 24] (by decide +kernel) (by decide +kernel)
set_option maxRecDepth 20000 in
theorem gX2_take_X1_remove : GoodIn wsX2_take (wsV RX2 95 RX1 yX1_remove wsX1_remove) := goodIn_app (goodIn_of _ (by decide +kernel)) ggX2_take_X1_remove
theorem dX2_take_0 : decode cX2_take 0 = .ok (.aload_n 0, 1) := by decide +kernel
theorem dX2_take_1 : decode cX2_take 1 = .ok (.getfield 19, 3) := by decide +kernel
theorem dX2_take_4 : decode cX2_take 4 = .ok (.iload_n 1, 1) := by decide +kernel
theorem dX2_take_5 : decode cX2_take 5 = .ok (.invokevirtual 90, 3) := by decide +kernel
theorem dX2_take_8 : decode cX2_take 8 = .ok (.ifCond .ne 13, 3) := by decide +kernel
theorem dX2_take_11 : decode cX2_take 11 = .ok (.new 65, 3) := by decide +kernel
theorem dX2_take_14 : decode cX2_take 14 = .ok (.dup, 1) := by decide +kernel
theorem dX2_take_15 : decode cX2_take 15 = .ok (.ldc 93, 2) := by decide +kernel
theorem dX2_take_17 : decode cX2_take 17 = .ok (.invokespecial 69, 3) := by decide +kernel
theorem dX2_take_20 : decode cX2_take 20 = .ok (.athrow, 1) := by decide +kernel
theorem dX2_take_21 : decode cX2_take 21 = .ok (.aload_n 0, 1) := by decide +kernel
theorem dX2_take_22 : decode cX2_take 22 = .ok (.getfield 19, 3) := by decide +kernel
theorem dX2_take_25 : decode cX2_take 25 = .ok (.iload_n 1, 1) := by decide +kernel
theorem dX2_take_26 : decode cX2_take 26 = .ok (.invokevirtual 95, 3) := by decide +kernel
theorem dX2_take_29 : decode cX2_take 29 = .ok (.return_, 1) := by decide +kernel
set_option maxRecDepth 20000 in
theorem ggX2_part_X1_isThere : GoodIn wsX2_part wsX1_isThere := goodIn_r _ [13, 14, 15, 77, 78, 79, 80] (by decide +kernel) (by decide +kernel)
set_option maxRecDepth 20000 in
theorem gX2_part_X1_isThere : GoodIn wsX2_part (wsV RX2 90 RX1 yX1_isThere wsX1_isThere) := goodIn_app (goodIn_of _ (by decide +kernel)) ggX2_part_X1_isThere
set_option maxRecDepth 20000 in
theorem ggX2_part_X2_isPlace : GoodIn wsX2_part wsX2_isPlace := goodIn_r _ [19] (by decide +kernel) (by decide +kernel)
set_option maxRecDepth 20000 in
theorem gX2_part_X2_isPlace : GoodIn wsX2_part (va_wsS RX2 38 yX2_isPlace wsX2_isPlace) := goodIn_app (goodIn_of _ (by decide +kernel)) ggX2_part_X2_isPlace
set_option maxRecDepth 20000 in
theorem ggX2_part_X2_isWithin : GoodIn wsX2_part wsX2_isWithin := goodIn_r _ [23, 24, 25, 26, 18, 27, 8, 7, 28, 29, 30, 12, 31, 32, 33, 34, 35, 36, 37, 38, 39, 71, 72, 73, 74, 75, 76, 77, 78, 79, 80, 81, 82, 83] (by decide +kernel) (by decide +kernel)
set_option maxRecDepth 20000 in
theorem gX2_part_X2_isWithin : GoodIn wsX2_part (wsV RX2 99 RX2 yX2_isWithin wsX2_isWithin) := goodIn_app (goodIn_of _ (by decide +kernel)) ggX2_part_X2_isWithin
set_option maxRecDepth 20000 in
theorem ggX2_part_X0_canAdd : GoodIn wsX2_part wsX0_canAdd := goodIn_r _ [43, 44, 45, 46, 47, 36, 48, 38, 39, 81, 82, 83] (by decide +kernel) (by decide +kernel)
set_option maxRecDepth 20000 in
theorem gX2_part_X0_canAdd : GoodIn wsX2_part (wsV RX2 49 RX0 yX0_canAdd wsX0_canAdd) := goodIn_app (goodIn_of _ (by decide +kernel)) ggX2_part_X0_canAdd
set_option maxRecDepth 20000 in
theorem ggX2_part_X1_canAdd : GoodIn wsX2_part wsX1_canAdd := goodIn_r _ [52, 14, 53, 77, 78, 79, 80] (by decide +kernel) (by decide +kernel)
set_option maxRecDepth 20000 in
theorem gX2_part_X1_canAdd : GoodIn wsX2_part (wsV RX2 83 RX1 yX1_canAdd wsX1_canAdd) := goodIn_app (goodIn_of _ (by decide +kernel)) ggX2_part_X1_canAdd
set_option maxRecDepth 20000 in
theorem ggX2_part_X1_cornerOf : GoodIn wsX2_part wsX1_cornerOf := goodIn_r _ [31, 32, 77, 78, 79, 80] (by decide +kernel) (by decide +kernel)
set_option maxRecDepth 20000 in
theorem gX2_part_X1_cornerOf : GoodIn wsX2_part (wsV RX2 107 RX1 yX1_cornerOf wsX1_cornerOf) := goodIn_app (goodIn_of _ (by decide +kernel)) ggX2_part_X1_cornerOf
set_option maxRecDepth 20000 in
theorem ggX2_part_X0_add : GoodIn wsX2_part wsX0_add := goodIn_r _ [57, 44, 58, 59, 60, 36, 61, 38, 39, 81, 82, 83] (by decide +kernel) (by decide +kernel)
set_option maxRecDepth 20000 in
theorem gX2_part_X0_add : GoodIn wsX2_part (wsV RX2 57 RX0 yX0_add wsX0_add) := goodIn_app (goodIn_of _ (by decide +kernel)) ggX2_part_X0_add
set_option maxRecDepth 20000 in
theorem ggX2_part_X1_put : GoodIn wsX2_part wsX1_put := goodIn_r _ [65, 32, 77, 78, 79, 80] (by decide +kernel) (by decide +kernel)
set_option maxRecDepth 20000 in
theorem gX2_part_X1_put : GoodIn wsX2_part (wsV RX2 110 RX1 yX1_put wsX1_put) := goodIn_app (goodIn_of _ (by decide +kernel)) ggX2_part_X1_put
set_option maxRecDepth 20000 in
theorem ggX2_part_X1_add : GoodIn wsX2_part wsX1_add := goodIn_r _ [69, 53, 15, 14, 70, 63, 64, 12, 65, 32, 77, 78, 79, 80] (by decide +kernel) (by decide +kernel)
set_option maxRecDepth 20000 in
theorem gX2_part_X1_add : GoodIn wsX2_part (wsV RX2 87 RX1 yX1_add wsX1_add) := goodIn_app (goodIn_of _ (by decide +kernel)) ggX2_part_X1_add
theorem dX2_part_0 : decode cX2_part 0 = .ok (.aload_n 0, 1) := by decide +kernel
theorem dX2_part_1 : decode cX2_part 1 = .ok (.getfield 19, 3) := by decide +kernel
theorem dX2_part_4 : decode cX2_part 4 = .ok (.iload_n 1, 1) := by decide +kernel
theorem dX2_part_5 : decode cX2_part 5 = .ok (.invokevirtual 90, 3) := by decide +kernel
theorem dX2_part_8 : decode cX2_part 8 = .ok (.ifCond .ne 13, 3) := by decide +kernel
theorem dX2_part_11 : decode cX2_part 11 = .ok (.new 65, 3) := by decide +kernel
theorem dX2_part_14 : decode cX2_part 14 = .ok (.dup, 1) := by decide +kernel
theorem dX2_part_15 : decode cX2_part 15 = .ok (.ldc 93, 2) := by decide +kernel
theorem dX2_part_17 : decode cX2_part 17 = .ok (.invokespecial 69, 3) := by decide +kernel
theorem dX2_part_20 : decode cX2_part 20 = .ok (.athrow, 1) := by decide +kernel
theorem dX2_part_21 : decode cX2_part 21 = .ok (.iload_n 2, 1) := by decide +kernel
theorem dX2_part_22 : decode cX2_part 22 = .ok (.iload_n 3, 1) := by decide +kernel
theorem dX2_part_23 : decode cX2_part 23 = .ok (.invokestatic 38, 3) := by decide +kernel
theorem dX2_part_26 : decode cX2_part 26 = .ok (.ifCond .eq 13, 3) := by decide +kernel
theorem dX2_part_29 : decode cX2_part 29 = .ok (.aload_n 0, 1) := by decide +kernel
theorem dX2_part_30 : decode cX2_part 30 = .ok (.iload_n 1, 1) := by decide +kernel
theorem dX2_part_31 : decode cX2_part 31 = .ok (.iload_n 2, 1) := by decide +kernel
theorem dX2_part_32 : decode cX2_part 32 = .ok (.iload_n 3, 1) := by decide +kernel
theorem dX2_part_33 : decode cX2_part 33 = .ok (.invokevirtual 99, 3) := by decide +kernel
theorem dX2_part_36 : decode cX2_part 36 = .ok (.ifCond .ne 13, 3) := by decide +kernel
theorem dX2_part_39 : decode cX2_part 39 = .ok (.new 42, 3) := by decide +kernel
theorem dX2_part_42 : decode cX2_part 42 = .ok (.dup, 1) := by decide +kernel
theorem dX2_part_43 : decode cX2_part 43 = .ok (.ldc 103, 2) := by decide +kernel
theorem dX2_part_45 : decode cX2_part 45 = .ok (.invokespecial 46, 3) := by decide +kernel
theorem dX2_part_48 : decode cX2_part 48 = .ok (.athrow, 1) := by decide +kernel
theorem dX2_part_49 : decode cX2_part 49 = .ok (.aload_n 0, 1) := by decide +kernel
theorem dX2_part_50 : decode cX2_part 50 = .ok (.getfield 10, 3) := by decide +kernel
theorem dX2_part_53 : decode cX2_part 53 = .ok (.iload_n 2, 1) := by decide +kernel
theorem dX2_part_54 : decode cX2_part 54 = .ok (.iload_n 3, 1) := by decide +kernel
theorem dX2_part_55 : decode cX2_part 55 = .ok (.invokevirtual 49, 3) := by decide +kernel
theorem dX2_part_58 : decode cX2_part 58 = .ok (.ifCond .eq 14, 3) := by decide +kernel
theorem dX2_part_61 : decode cX2_part 61 = .ok (.aload_n 0, 1) := by decide +kernel
theorem dX2_part_62 : decode cX2_part 62 = .ok (.getfield 19, 3) := by decide +kernel
theorem dX2_part_65 : decode cX2_part 65 = .ok (.iconst 2, 1) := by decide +kernel
theorem dX2_part_66 : decode cX2_part 66 = .ok (.invokevirtual 83, 3) := by decide +kernel
theorem dX2_part_69 : decode cX2_part 69 = .ok (.ifCond .ne 13, 3) := by decide +kernel
theorem dX2_part_72 : decode cX2_part 72 = .ok (.new 52, 3) := by decide +kernel
theorem dX2_part_75 : decode cX2_part 75 = .ok (.dup, 1) := by decide +kernel
theorem dX2_part_76 : decode cX2_part 76 = .ok (.ldc 105, 2) := by decide +kernel
theorem dX2_part_78 : decode cX2_part 78 = .ok (.invokespecial 56, 3) := by decide +kernel
theorem dX2_part_81 : decode cX2_part 81 = .ok (.athrow, 1) := by decide +kernel
theorem dX2_part_82 : decode cX2_part 82 = .ok (.aload_n 0, 1) := by decide +kernel
theorem dX2_part_83 : decode cX2_part 83 = .ok (.getfield 19, 3) := by decide +kernel
theorem dX2_part_86 : decode cX2_part 86 = .ok (.iload_n 1, 1) := by decide +kernel
theorem dX2_part_87 : decode cX2_part 87 = .ok (.iconst 0, 1) := by decide +kernel
theorem dX2_part_88 : decode cX2_part 88 = .ok (.invokevirtual 107, 3) := by decide +kernel
theorem dX2_part_91 : decode cX2_part 91 = .ok (.istore 4, 2) := by decide +kernel
theorem dX2_part_93 : decode cX2_part 93 = .ok (.aload_n 0, 1) := by decide +kernel
theorem dX2_part_94 : decode cX2_part 94 = .ok (.getfield 19, 3) := by decide +kernel
theorem dX2_part_97 : decode cX2_part 97 = .ok (.iload_n 1, 1) := by decide +kernel
theorem dX2_part_98 : decode cX2_part 98 = .ok (.iconst 1, 1) := by decide +kernel
theorem dX2_part_99 : decode cX2_part 99 = .ok (.invokevirtual 107, 3) := by decide +kernel
theorem dX2_part_102 : decode cX2_part 102 = .ok (.istore 5, 2) := by decide +kernel
theorem dX2_part_104 : decode cX2_part 104 = .ok (.aload_n 0, 1) := by decide +kernel
theorem dX2_part_105 : decode cX2_part 105 = .ok (.getfield 19, 3) := by decide +kernel
theorem dX2_part_108 : decode cX2_part 108 = .ok (.iload_n 1, 1) := by decide +kernel
theorem dX2_part_109 : decode cX2_part 109 = .ok (.iconst 2, 1) := by decide +kernel
theorem dX2_part_110 : decode cX2_part 110 = .ok (.invokevirtual 107, 3) := by decide +kernel
theorem dX2_part_113 : decode cX2_part 113 = .ok (.istore 6, 2) := by decide +kernel
theorem dX2_part_115 : decode cX2_part 115 = .ok (.aload_n 0, 1) := by decide +kernel
theorem dX2_part_116 : decode cX2_part 116 = .ok (.getfield 10, 3) := by decide +kernel
theorem dX2_part_119 : decode cX2_part 119 = .ok (.iload_n 2, 1) := by decide +kernel
theorem dX2_part_120 : decode cX2_part 120 = .ok (.iload_n 3, 1) := by decide +kernel
theorem dX2_part_121 : decode cX2_part 121 = .ok (.invokevirtual 57, 3) := by decide +kernel
theorem dX2_part_124 : decode cX2_part 124 = .ok (.istore 7, 2) := by decide +kernel
theorem dX2_part_126 : decode cX2_part 126 = .ok (.aload_n 0, 1) := by decide +kernel
theorem dX2_part_127 : decode cX2_part 127 = .ok (.getfield 19, 3) := by decide +kernel
theorem dX2_part_130 : decode cX2_part 130 = .ok (.iload_n 1, 1) := by decide +kernel
theorem dX2_part_131 : decode cX2_part 131 = .ok (.iload 4, 2) := by decide +kernel
theorem dX2_part_133 : decode cX2_part 133 = .ok (.iload 5, 2) := by decide +kernel
theorem dX2_part_135 : decode cX2_part 135 = .ok (.iload 7, 2) := by decide +kernel
theorem dX2_part_137 : decode cX2_part 137 = .ok (.invokevirtual 110, 3) := by decide +kernel
theorem dX2_part_140 : decode cX2_part 140 = .ok (.aload_n 0, 1) := by decide +kernel
theorem dX2_part_141 : decode cX2_part 141 = .ok (.getfield 19, 3) := by decide +kernel
theorem dX2_part_144 : decode cX2_part 144 = .ok (.iload 5, 2) := by decide +kernel
theorem dX2_part_146 : decode cX2_part 146 = .ok (.iload 6, 2) := by decide +kernel
theorem dX2_part_148 : decode cX2_part 148 = .ok (.iload 7, 2) := by decide +kernel
theorem dX2_part_150 : decode cX2_part 150 = .ok (.invokevirtual 87, 3) := by decide +kernel
theorem dX2_part_153 : decode cX2_part 153 = .ok (.pop, 1) := by decide +kernel
theorem dX2_part_154 : decode cX2_part 154 = .ok (.aload_n 0, 1) := by decide +kernel
theorem dX2_part_155 : decode cX2_part 155 = .ok (.getfield 19, 3) := by decide +kernel
theorem dX2_part_158 : decode cX2_part 158 = .ok (.iload 6, 2) := by decide +kernel
theorem dX2_part_160 : decode cX2_part 160 = .ok (.iload 4, 2) := by decide +kernel
theorem dX2_part_162 : decode cX2_part 162 = .ok (.iload 7, 2) := by decide +kernel
theorem dX2_part_164 : decode cX2_part 164 = .ok (.invokevirtual 87, 3) := by decide +kernel
theorem dX2_part_167 : decode cX2_part 167 = .ok (.pop, 1) := by decide +kernel
theorem dX2_part_168 : decode cX2_part 168 = .ok (.iload 7, 2) := by decide +kernel
theorem dX2_part_170 : decode cX2_part 170 = .ok (.ireturn, 1) := by decide +kernel
set_option maxRecDepth 20000 in
theorem ggX2_turn_X2_isEdge : GoodIn wsX2_turn wsX2_isEdge := goodIn_r _ [7, 8, 9, 10, 11, 12, 13, 14, 15, 54, 55, 56, 57, 58, 59, 60, 61, 62, 63] (by decide +kernel) (by decide +kernel)
set_option maxRecDepth 20000 in
theorem gX2_turn_X2_isEdge : GoodIn wsX2_turn (wsV RX2 113 RX2 yX2_isEdge wsX2_isEdge) := goodIn_app (goodIn_of _ (by decide +kernel)) ggX2_turn_X2_isEdge
set_option maxRecDepth 20000 in
theorem ggX2_turn_X2_turnEdge : GoodIn wsX2_turn wsX2_turnEdge := goodIn_r _ [19, 8, 20, 21, 22, 23, 12, 24, 14, 15, 25, 26, 27, 28, 29, 30, 31, 32, 33, 34, 35, 36, 37, 38, 39, 40, 41, 42, 43, 44, 45, 46, 47, 48, 49, 50, 51, 52, 53, 54, 55, 56, 57, 58, 59, 60, 61, 62, 63, 64, 65, 66] (by decide +kernel) (by decide +kernel)
set_option maxRecDepth 20000 in
theorem gX2_turn_X2_turnEdge : GoodIn wsX2_turn (wsV RX2 118 RX2 yX2_turnEdge wsX2_turnEdge) := goodIn_app (goodIn_of _ (by decide +kernel)) ggX2_turn_X2_turnEdge
theorem dX2_turn_0 : decode cX2_turn 0 = .ok (.aload_n 0, 1) := by decide +kernel
theorem dX2_turn_1 : decode cX2_turn 1 = .ok (.iload_n 1, 1) := by decide +kernel
theorem dX2_turn_2 : decode cX2_turn 2 = .ok (.iload_n 2, 1) := by decide +kernel
theorem dX2_turn_3 : decode cX2_turn 3 = .ok (.invokevirtual 113, 3) := by decide +kernel
theorem dX2_turn_6 : decode cX2_turn 6 = .ok (.ifCond .ne 13, 3) := by decide +kernel
theorem dX2_turn_9 : decode cX2_turn 9 = .ok (.new 65, 3) := by decide +kernel
theorem dX2_turn_12 : decode cX2_turn 12 = .ok (.dup, 1) := by decide +kernel
theorem dX2_turn_13 : decode cX2_turn 13 = .ok (.ldc 116, 2) := by decide +kernel
theorem dX2_turn_15 : decode cX2_turn 15 = .ok (.invokespecial 69, 3) := by decide +kernel
theorem dX2_turn_18 : decode cX2_turn 18 = .ok (.athrow, 1) := by decide +kernel
theorem dX2_turn_19 : decode cX2_turn 19 = .ok (.aload_n 0, 1) := by decide +kernel
theorem dX2_turn_20 : decode cX2_turn 20 = .ok (.iload_n 1, 1) := by decide +kernel
theorem dX2_turn_21 : decode cX2_turn 21 = .ok (.iload_n 2, 1) := by decide +kernel
theorem dX2_turn_22 : decode cX2_turn 22 = .ok (.invokevirtual 118, 3) := by decide +kernel
theorem dX2_turn_25 : decode cX2_turn 25 = .ok (.ireturn, 1) := by decide +kernel
set_option maxRecDepth 20000 in
theorem ggX2_improve_X2_turnFirstBadEdge : GoodIn wsX2_improve wsX2_turnFirstBadEdge := goodIn_r _ [7, 8, 9, 10, 11, 12, 13, 14, 15, 16, 17, 18, 19, 20, 21, 22, 6, 23, 24, 25, 26, 27, 28, 29, 30, 31, 32, 33, 34, 35, 36, 37, 38, 39, 40, 41, 42, 43, 44, 45, 46, 47, 48, 49, 50, 51, 52, 53, 54, 55, 56, 57, 58, 59, 60, 61, 62, 63, 64, 65, 66, 67, 68, 69, 70, 71, 72, 73, 74, 75, 76, 77, 78] (by decide +kernel) (by decide +kernel)
set_option maxRecDepth 20000 in
theorem gX2_improve_X2_turnFirstBadEdge : GoodIn wsX2_improve (wsV RX2 123 RX2 yX2_turnFirstBadEdge wsX2_turnFirstBadEdge) := goodIn_app (goodIn_of _ (by decide +kernel)) ggX2_improve_X2_turnFirstBadEdge
theorem dX2_improve_0 : decode cX2_improve 0 = .ok (.iload_n 1, 1) := by decide +kernel
theorem dX2_improve_1 : decode cX2_improve 1 = .ok (.ifCond .lt 10, 3) := by decide +kernel
theorem dX2_improve_4 : decode cX2_improve 4 = .ok (.iload_n 1, 1) := by decide +kernel
theorem dX2_improve_5 : decode cX2_improve 5 = .ok (.sipush 500, 3) := by decide +kernel
theorem dX2_improve_8 : decode cX2_improve 8 = .ok (.if_icmp .le 13, 3) := by decide +kernel
theorem dX2_improve_11 : decode cX2_improve 11 = .ok (.new 42, 3) := by decide +kernel
theorem dX2_improve_14 : decode cX2_improve 14 = .ok (.dup, 1) := by decide +kernel
theorem dX2_improve_15 : decode cX2_improve 15 = .ok (.ldc 121, 2) := by decide +kernel
theorem dX2_improve_17 : decode cX2_improve 17 = .ok (.invokespecial 46, 3) := by decide +kernel
theorem dX2_improve_20 : decode cX2_improve 20 = .ok (.athrow, 1) := by decide +kernel
theorem dX2_improve_21 : decode cX2_improve 21 = .ok (.iconst 0, 1) := by decide +kernel
theorem dX2_improve_22 : decode cX2_improve 22 = .ok (.istore_n 2, 1) := by decide +kernel
theorem dX2_improve_23 : decode cX2_improve 23 = .ok (.iload_n 2, 1) := by decide +kernel
theorem dX2_improve_24 : decode cX2_improve 24 = .ok (.iload_n 1, 1) := by decide +kernel
theorem dX2_improve_25 : decode cX2_improve 25 = .ok (.if_icmp .ge 16, 3) := by decide +kernel
theorem dX2_improve_28 : decode cX2_improve 28 = .ok (.aload_n 0, 1) := by decide +kernel
theorem dX2_improve_29 : decode cX2_improve 29 = .ok (.invokevirtual 123, 3) := by decide +kernel
theorem dX2_improve_32 : decode cX2_improve 32 = .ok (.ifCond .eq 9, 3) := by decide +kernel
theorem dX2_improve_35 : decode cX2_improve 35 = .ok (.iinc 2 1, 3) := by decide +kernel
theorem dX2_improve_38 : decode cX2_improve 38 = .ok (.goto (-15), 3) := by decide +kernel
theorem dX2_improve_41 : decode cX2_improve 41 = .ok (.iload_n 2, 1) := by decide +kernel
theorem dX2_improve_42 : decode cX2_improve 42 = .ok (.ireturn, 1) := by decide +kernel
set_option maxRecDepth 20000 in
theorem ggX2_fault_X1_thereCount : GoodIn wsX2_fault wsX1_thereCount := goodIn_r _ [6, 7, 135, 136, 137, 138] (by decide +kernel) (by decide +kernel)
set_option maxRecDepth 20000 in
theorem gX2_fault_X1_thereCount : GoodIn wsX2_fault (wsV RX2 127 RX1 yX1_thereCount wsX1_thereCount) := goodIn_app (goodIn_of _ (by decide +kernel)) ggX2_fault_X1_thereCount
set_option maxRecDepth 20000 in
theorem ggX2_fault_X1_numberAt : GoodIn wsX2_fault wsX1_numberAt := goodIn_r _ [11, 12, 135, 136, 137, 138] (by decide +kernel) (by decide +kernel)
set_option maxRecDepth 20000 in
theorem gX2_fault_X1_numberAt : GoodIn wsX2_fault (wsV RX2 131 RX1 yX1_numberAt wsX1_numberAt) := goodIn_app (goodIn_of _ (by decide +kernel)) ggX2_fault_X1_numberAt
set_option maxRecDepth 20000 in
theorem ggX2_fault_X2_isRight : GoodIn wsX2_fault wsX2_isRight := goodIn_r _ [17, 18, 19, 20, 16, 21, 22, 1, 23, 24, 25, 5, 26, 27, 28, 29, 30, 31, 32, 33, 34, 35, 36, 37, 38, 129, 130, 131, 132, 133, 134, 135, 136, 137, 138, 139, 140, 141] (by decide +kernel) (by decide +kernel)
set_option maxRecDepth 20000 in
theorem gX2_fault_X2_isRight : GoodIn wsX2_fault (wsV RX2 135 RX2 yX2_isRight wsX2_isRight) := goodIn_app (goodIn_of _ (by decide +kernel)) ggX2_fault_X2_isRight
set_option maxRecDepth 20000 in
theorem ggX2_fault_X2_rememberCulprits : GoodIn wsX2_fault wsX2_rememberCulprits := goodIn_r _ [42, 43, 44, 129, 130, 131, 132, 133, 134] (by decide +kernel) (by decide +kernel)
set_option maxRecDepth 20000 in
theorem gX2_fault_X2_rememberCulprits : GoodIn wsX2_fault (wsV RX2 138 RX2 yX2_rememberCulprits wsX2_rememberCulprits) := goodIn_app (goodIn_of _ (by decide +kernel)) ggX2_fault_X2_rememberCulprits
set_option maxRecDepth 20000 in
theorem ggX2_fault_X2_firstUntidyBefore : GoodIn wsX2_fault wsX2_firstUntidyBefore := goodIn_r _ [48, 1, 8, 9, 10, 5, 11, 12, 49, 50, 51, 16, 52, 53, 54, 55, 56, 57, 58, 59, 60, 61, 62, 63, 64, 65, 66, 67, 68, 22, 23, 24, 25, 26, 27, 69, 70, 71, 31, 72, 33, 73, 74, 75, 76, 77, 78, 79, 80, 81, 82, 83, 84, 85, 86, 87, 88, 89, 90, 91, 34, 92, 93, 94, 95, 96, 97, 98, 99, 100, 101, 102, 103, 104, 105, 106, 107, 108, 109, 110, 111, 112, 113, 114, 115, 116, 36, 37, 38, 117, 118, 119, 120, 121, 122, 123, 124, 125, 29, 30, 32, 35, 126, 127, 128, 129, 130, 131, 132, 133, 134, 135, 136, 137, 138, 139, 140, 141] (by decide +kernel) (by decide +kernel)
set_option maxRecDepth 20000 in
theorem gX2_fault_X2_firstUntidyBefore : GoodIn wsX2_fault (wsV RX2 142 RX2 yX2_firstUntidyBefore wsX2_firstUntidyBefore) := goodIn_app (goodIn_of _ (by decide +kernel)) ggX2_fault_X2_firstUntidyBefore
theorem dX2_fault_0 : decode cX2_fault 0 = .ok (.iconst 0, 1) := by decide +kernel
theorem dX2_fault_1 : decode cX2_fault 1 = .ok (.istore_n 1, 1) := by decide +kernel
theorem dX2_fault_2 : decode cX2_fault 2 = .ok (.iload_n 1, 1) := by decide +kernel
theorem dX2_fault_3 : decode cX2_fault 3 = .ok (.aload_n 0, 1) := by decide +kernel
theorem dX2_fault_4 : decode cX2_fault 4 = .ok (.getfield 19, 3) := by decide +kernel
theorem dX2_fault_7 : decode cX2_fault 7 = .ok (.invokevirtual 127, 3) := by decide +kernel
theorem dX2_fault_10 : decode cX2_fault 10 = .ok (.if_icmp .ge 53, 3) := by decide +kernel
theorem dX2_fault_13 : decode cX2_fault 13 = .ok (.aload_n 0, 1) := by decide +kernel
theorem dX2_fault_14 : decode cX2_fault 14 = .ok (.getfield 19, 3) := by decide +kernel
theorem dX2_fault_17 : decode cX2_fault 17 = .ok (.iload_n 1, 1) := by decide +kernel
theorem dX2_fault_18 : decode cX2_fault 18 = .ok (.invokevirtual 131, 3) := by decide +kernel
theorem dX2_fault_21 : decode cX2_fault 21 = .ok (.istore_n 2, 1) := by decide +kernel
theorem dX2_fault_22 : decode cX2_fault 22 = .ok (.aload_n 0, 1) := by decide +kernel
theorem dX2_fault_23 : decode cX2_fault 23 = .ok (.iload_n 2, 1) := by decide +kernel
theorem dX2_fault_24 : decode cX2_fault 24 = .ok (.invokevirtual 135, 3) := by decide +kernel
theorem dX2_fault_27 : decode cX2_fault 27 = .ok (.ifCond .ne 11, 3) := by decide +kernel
theorem dX2_fault_30 : decode cX2_fault 30 = .ok (.aload_n 0, 1) := by decide +kernel
theorem dX2_fault_31 : decode cX2_fault 31 = .ok (.iload_n 2, 1) := by decide +kernel
theorem dX2_fault_32 : decode cX2_fault 32 = .ok (.iconst (-1), 1) := by decide +kernel
theorem dX2_fault_33 : decode cX2_fault 33 = .ok (.invokevirtual 138, 3) := by decide +kernel
theorem dX2_fault_36 : decode cX2_fault 36 = .ok (.iconst 1, 1) := by decide +kernel
theorem dX2_fault_37 : decode cX2_fault 37 = .ok (.ireturn, 1) := by decide +kernel
theorem dX2_fault_38 : decode cX2_fault 38 = .ok (.aload_n 0, 1) := by decide +kernel
theorem dX2_fault_39 : decode cX2_fault 39 = .ok (.iload_n 1, 1) := by decide +kernel
theorem dX2_fault_40 : decode cX2_fault 40 = .ok (.invokevirtual 142, 3) := by decide +kernel
theorem dX2_fault_43 : decode cX2_fault 43 = .ok (.istore_n 3, 1) := by decide +kernel
theorem dX2_fault_44 : decode cX2_fault 44 = .ok (.iload_n 3, 1) := by decide +kernel
theorem dX2_fault_45 : decode cX2_fault 45 = .ok (.iconst (-1), 1) := by decide +kernel
theorem dX2_fault_46 : decode cX2_fault 46 = .ok (.if_icmp .eq 11, 3) := by decide +kernel
theorem dX2_fault_49 : decode cX2_fault 49 = .ok (.aload_n 0, 1) := by decide +kernel
theorem dX2_fault_50 : decode cX2_fault 50 = .ok (.iload_n 2, 1) := by decide +kernel
theorem dX2_fault_51 : decode cX2_fault 51 = .ok (.iload_n 3, 1) := by decide +kernel
theorem dX2_fault_52 : decode cX2_fault 52 = .ok (.invokevirtual 138, 3) := by decide +kernel
theorem dX2_fault_55 : decode cX2_fault 55 = .ok (.iconst 2, 1) := by decide +kernel
theorem dX2_fault_56 : decode cX2_fault 56 = .ok (.ireturn, 1) := by decide +kernel
theorem dX2_fault_57 : decode cX2_fault 57 = .ok (.iinc 1 1, 3) := by decide +kernel
theorem dX2_fault_60 : decode cX2_fault 60 = .ok (.goto (-58), 3) := by decide +kernel
theorem dX2_fault_63 : decode cX2_fault 63 = .ok (.iconst 0, 1) := by decide +kernel
theorem dX2_fault_64 : decode cX2_fault 64 = .ok (.ireturn, 1) := by decide +kernel
theorem dX2_culprit_0 : decode cX2_culprit 0 = .ok (.iload_n 1, 1) := by decide +kernel
theorem dX2_culprit_1 : decode cX2_culprit 1 = .ok (.lookupswitch 37 #[(0, 27), (1, 32)], 27) := by decide +kernel
theorem dX2_culprit_28 : decode cX2_culprit 28 = .ok (.aload_n 0, 1) := by decide +kernel
theorem dX2_culprit_29 : decode cX2_culprit 29 = .ok (.getfield 31, 3) := by decide +kernel
theorem dX2_culprit_32 : decode cX2_culprit 32 = .ok (.ireturn, 1) := by decide +kernel
theorem dX2_culprit_33 : decode cX2_culprit 33 = .ok (.aload_n 0, 1) := by decide +kernel
theorem dX2_culprit_34 : decode cX2_culprit 34 = .ok (.getfield 35, 3) := by decide +kernel
theorem dX2_culprit_37 : decode cX2_culprit 37 = .ok (.ireturn, 1) := by decide +kernel
theorem dX2_culprit_38 : decode cX2_culprit 38 = .ok (.iconst (-1), 1) := by decide +kernel
theorem dX2_culprit_39 : decode cX2_culprit 39 = .ok (.ireturn, 1) := by decide +kernel
set_option maxRecDepth 20000 in
theorem ggX2_covers_X2_isPixel : GoodIn wsX2_covers wsX2_isPixel := goodIn_r _ [5] (by decide +kernel) (by decide +kernel)
set_option maxRecDepth 20000 in
theorem gX2_covers_X2_isPixel : GoodIn wsX2_covers (va_wsS RX2 145 yX2_isPixel wsX2_isPixel) := goodIn_app (goodIn_of _ (by decide +kernel)) ggX2_covers_X2_isPixel
set_option maxRecDepth 20000 in
theorem ggX2_covers_X1_thereCount : GoodIn wsX2_covers wsX1_thereCount := goodIn_r _ [10, 11, 76, 77, 78, 79] (by decide +kernel) (by decide +kernel)
set_option maxRecDepth 20000 in
theorem gX2_covers_X1_thereCount : GoodIn wsX2_covers (wsV RX2 127 RX1 yX1_thereCount wsX1_thereCount) := goodIn_app (goodIn_of _ (by decide +kernel)) ggX2_covers_X1_thereCount
set_option maxRecDepth 20000 in
theorem ggX2_covers_X1_numberAt : GoodIn wsX2_covers wsX1_numberAt := goodIn_r _ [15, 16, 76, 77, 78, 79] (by decide +kernel) (by decide +kernel)
set_option maxRecDepth 20000 in
theorem gX2_covers_X1_numberAt : GoodIn wsX2_covers (wsV RX2 131 RX1 yX1_numberAt wsX1_numberAt) := goodIn_app (goodIn_of _ (by decide +kernel)) ggX2_covers_X1_numberAt
set_option maxRecDepth 20000 in
theorem ggX2_covers_X2_coversPixel : GoodIn wsX2_covers wsX2_coversPixel := goodIn_r _ [20, 21, 22, 23, 4, 24, 25, 26, 27, 28, 29, 1, 30, 31, 32, 9, 33, 34, 35, 36, 37, 38, 39, 40, 41, 42, 43, 44, 45, 46, 47, 48, 49, 50, 51, 52, 53, 54, 55, 56, 57, 58, 59, 60, 61, 62, 63, 64, 65, 66, 67, 68, 69, 70, 71, 72, 73, 74, 75, 76, 77, 78, 79, 80, 81, 82] (by decide +kernel) (by decide +kernel)
set_option maxRecDepth 20000 in
theorem gX2_covers_X2_coversPixel : GoodIn wsX2_covers (wsV RX2 148 RX2 yX2_coversPixel wsX2_coversPixel) := goodIn_app (goodIn_of _ (by decide +kernel)) ggX2_covers_X2_coversPixel
theorem dX2_covers_0 : decode cX2_covers 0 = .ok (.iload_n 1, 1) := by decide +kernel
theorem dX2_covers_1 : decode cX2_covers 1 = .ok (.iload_n 2, 1) := by decide +kernel
theorem dX2_covers_2 : decode cX2_covers 2 = .ok (.invokestatic 145, 3) := by decide +kernel
theorem dX2_covers_5 : decode cX2_covers 5 = .ok (.ifCond .ne 5, 3) := by decide +kernel
theorem dX2_covers_8 : decode cX2_covers 8 = .ok (.iconst 0, 1) := by decide +kernel
theorem dX2_covers_9 : decode cX2_covers 9 = .ok (.ireturn, 1) := by decide +kernel
theorem dX2_covers_10 : decode cX2_covers 10 = .ok (.iconst 0, 1) := by decide +kernel
theorem dX2_covers_11 : decode cX2_covers 11 = .ok (.istore_n 3, 1) := by decide +kernel
theorem dX2_covers_12 : decode cX2_covers 12 = .ok (.iconst 0, 1) := by decide +kernel
theorem dX2_covers_13 : decode cX2_covers 13 = .ok (.istore 4, 2) := by decide +kernel
theorem dX2_covers_15 : decode cX2_covers 15 = .ok (.iload 4, 2) := by decide +kernel
theorem dX2_covers_17 : decode cX2_covers 17 = .ok (.aload_n 0, 1) := by decide +kernel
theorem dX2_covers_18 : decode cX2_covers 18 = .ok (.getfield 19, 3) := by decide +kernel
theorem dX2_covers_21 : decode cX2_covers 21 = .ok (.invokevirtual 127, 3) := by decide +kernel
theorem dX2_covers_24 : decode cX2_covers 24 = .ok (.if_icmp .ge 30, 3) := by decide +kernel
theorem dX2_covers_27 : decode cX2_covers 27 = .ok (.aload_n 0, 1) := by decide +kernel
theorem dX2_covers_28 : decode cX2_covers 28 = .ok (.aload_n 0, 1) := by decide +kernel
theorem dX2_covers_29 : decode cX2_covers 29 = .ok (.getfield 19, 3) := by decide +kernel
theorem dX2_covers_32 : decode cX2_covers 32 = .ok (.iload 4, 2) := by decide +kernel
theorem dX2_covers_34 : decode cX2_covers 34 = .ok (.invokevirtual 131, 3) := by decide +kernel
theorem dX2_covers_37 : decode cX2_covers 37 = .ok (.iload_n 1, 1) := by decide +kernel
theorem dX2_covers_38 : decode cX2_covers 38 = .ok (.iload_n 2, 1) := by decide +kernel
theorem dX2_covers_39 : decode cX2_covers 39 = .ok (.invokevirtual 148, 3) := by decide +kernel
theorem dX2_covers_42 : decode cX2_covers 42 = .ok (.ifCond .eq 6, 3) := by decide +kernel
theorem dX2_covers_45 : decode cX2_covers 45 = .ok (.iinc 3 1, 3) := by decide +kernel
theorem dX2_covers_48 : decode cX2_covers 48 = .ok (.iinc 4 1, 3) := by decide +kernel
theorem dX2_covers_51 : decode cX2_covers 51 = .ok (.goto (-36), 3) := by decide +kernel
theorem dX2_covers_54 : decode cX2_covers 54 = .ok (.iload_n 3, 1) := by decide +kernel
theorem dX2_covers_55 : decode cX2_covers 55 = .ok (.ireturn, 1) := by decide +kernel
set_option maxRecDepth 20000 in
theorem ggX2_who_X2_isPixel : GoodIn wsX2_who wsX2_isPixel := goodIn_r _ [5] (by decide +kernel) (by decide +kernel)
set_option maxRecDepth 20000 in
theorem gX2_who_X2_isPixel : GoodIn wsX2_who (va_wsS RX2 145 yX2_isPixel wsX2_isPixel) := goodIn_app (goodIn_of _ (by decide +kernel)) ggX2_who_X2_isPixel
set_option maxRecDepth 20000 in
theorem ggX2_who_X1_thereCount : GoodIn wsX2_who wsX1_thereCount := goodIn_r _ [10, 11, 76, 77, 78, 79] (by decide +kernel) (by decide +kernel)
set_option maxRecDepth 20000 in
theorem gX2_who_X1_thereCount : GoodIn wsX2_who (wsV RX2 127 RX1 yX1_thereCount wsX1_thereCount) := goodIn_app (goodIn_of _ (by decide +kernel)) ggX2_who_X1_thereCount
set_option maxRecDepth 20000 in
theorem ggX2_who_X1_numberAt : GoodIn wsX2_who wsX1_numberAt := goodIn_r _ [15, 16, 76, 77, 78, 79] (by decide +kernel) (by decide +kernel)
set_option maxRecDepth 20000 in
theorem gX2_who_X1_numberAt : GoodIn wsX2_who (wsV RX2 131 RX1 yX1_numberAt wsX1_numberAt) := goodIn_app (goodIn_of _ (by decide +kernel)) ggX2_who_X1_numberAt
set_option maxRecDepth 20000 in
theorem ggX2_who_X2_coversPixel : GoodIn wsX2_who wsX2_coversPixel := goodIn_r _ [20, 21, 22, 23, 4, 24, 25, 26, 27, 28, 29, 1, 30, 31, 32, 9, 33, 34, 35, 36, 37, 38, 39, 40, 41, 42, 43, 44, 45, 46, 47, 48, 49, 50, 51, 52, 53, 54, 55, 56, 57, 58, 59, 60, 61, 62, 63, 64, 65, 66, 67, 68, 69, 70, 71, 72, 73, 74, 75, 76, 77, 78, 79, 80, 81, 82] (by decide +kernel) (by decide +kernel)
set_option maxRecDepth 20000 in
theorem gX2_who_X2_coversPixel : GoodIn wsX2_who (wsV RX2 148 RX2 yX2_coversPixel wsX2_coversPixel) := goodIn_app (goodIn_of _ (by decide +kernel)) ggX2_who_X2_coversPixel
theorem dX2_who_0 : decode cX2_who 0 = .ok (.iload_n 1, 1) := by decide +kernel
theorem dX2_who_1 : decode cX2_who 1 = .ok (.iload_n 2, 1) := by decide +kernel
theorem dX2_who_2 : decode cX2_who 2 = .ok (.invokestatic 145, 3) := by decide +kernel
theorem dX2_who_5 : decode cX2_who 5 = .ok (.ifCond .ne 5, 3) := by decide +kernel
theorem dX2_who_8 : decode cX2_who 8 = .ok (.iconst (-1), 1) := by decide +kernel
theorem dX2_who_9 : decode cX2_who 9 = .ok (.ireturn, 1) := by decide +kernel
theorem dX2_who_10 : decode cX2_who 10 = .ok (.iconst 0, 1) := by decide +kernel
theorem dX2_who_11 : decode cX2_who 11 = .ok (.istore_n 3, 1) := by decide +kernel
theorem dX2_who_12 : decode cX2_who 12 = .ok (.iload_n 3, 1) := by decide +kernel
theorem dX2_who_13 : decode cX2_who 13 = .ok (.aload_n 0, 1) := by decide +kernel
theorem dX2_who_14 : decode cX2_who 14 = .ok (.getfield 19, 3) := by decide +kernel
theorem dX2_who_17 : decode cX2_who 17 = .ok (.invokevirtual 127, 3) := by decide +kernel
theorem dX2_who_20 : decode cX2_who 20 = .ok (.if_icmp .ge 33, 3) := by decide +kernel
theorem dX2_who_23 : decode cX2_who 23 = .ok (.aload_n 0, 1) := by decide +kernel
theorem dX2_who_24 : decode cX2_who 24 = .ok (.getfield 19, 3) := by decide +kernel
theorem dX2_who_27 : decode cX2_who 27 = .ok (.iload_n 3, 1) := by decide +kernel
theorem dX2_who_28 : decode cX2_who 28 = .ok (.invokevirtual 131, 3) := by decide +kernel
theorem dX2_who_31 : decode cX2_who 31 = .ok (.istore 4, 2) := by decide +kernel
theorem dX2_who_33 : decode cX2_who 33 = .ok (.aload_n 0, 1) := by decide +kernel
theorem dX2_who_34 : decode cX2_who 34 = .ok (.iload 4, 2) := by decide +kernel
theorem dX2_who_36 : decode cX2_who 36 = .ok (.iload_n 1, 1) := by decide +kernel
theorem dX2_who_37 : decode cX2_who 37 = .ok (.iload_n 2, 1) := by decide +kernel
theorem dX2_who_38 : decode cX2_who 38 = .ok (.invokevirtual 148, 3) := by decide +kernel
theorem dX2_who_41 : decode cX2_who 41 = .ok (.ifCond .eq 6, 3) := by decide +kernel
theorem dX2_who_44 : decode cX2_who 44 = .ok (.iload 4, 2) := by decide +kernel
theorem dX2_who_46 : decode cX2_who 46 = .ok (.ireturn, 1) := by decide +kernel
theorem dX2_who_47 : decode cX2_who 47 = .ok (.iinc 3 1, 3) := by decide +kernel
theorem dX2_who_50 : decode cX2_who 50 = .ok (.goto (-38), 3) := by decide +kernel
theorem dX2_who_53 : decode cX2_who 53 = .ok (.iconst (-1), 1) := by decide +kernel
theorem dX2_who_54 : decode cX2_who 54 = .ok (.ireturn, 1) := by decide +kernel
set_option maxRecDepth 20000 in
theorem ggX2_painted_X2_paintedPixels : GoodIn wsX2_painted wsX2_paintedPixels := goodIn_r _ [6, 7, 8, 9, 5, 10, 11, 12, 13, 14, 15, 16, 17, 18, 19, 20, 21, 22, 23, 24, 25, 26, 27, 28, 29, 30, 31, 32, 33, 34, 35, 36, 37, 38, 39, 40, 41, 42, 43, 44, 45, 46, 47, 48, 49, 50, 51, 52, 53, 54, 55, 56, 57, 58, 59, 60, 61, 62, 63, 64, 65, 66, 67, 68, 69, 70, 71, 72, 73, 74, 75, 76, 77, 78, 79, 80, 81, 82, 83, 84, 85, 86, 87, 88, 89, 90, 91, 92, 93, 94, 95, 96, 97, 98, 99, 100, 101, 102, 103, 104, 105, 106, 107, 108, 109, 110, 111, 112, 113, 118, 119, 120, 121, 122, 123, 124, 125, 126, 127, 128, 129, 130] (by decide +kernel) (by decide +kernel)
set_option maxRecDepth 20000 in
theorem gX2_painted_X2_paintedPixels : GoodIn wsX2_painted (wsV RX2 151 RX2 yX2_paintedPixels wsX2_paintedPixels) := goodIn_app (goodIn_of _ (by decide +kernel)) ggX2_painted_X2_paintedPixels
set_option maxRecDepth 20000 in
theorem ggX2_painted_X2_sumOfTurns : GoodIn wsX2_painted wsX2_sumOfTurns := goodIn_r _ [117, 11, 55, 56, 33, 57, 12, 13, 14, 15, 16, 17, 18, 19, 20, 21, 22, 62, 63, 64, 5, 65, 39, 40, 41, 42, 43, 44, 66, 67, 68, 48, 69, 70, 50, 71, 72, 73, 74, 118, 119, 120, 121, 122, 123, 124, 125, 126, 127, 128, 129, 130] (by decide +kernel) (by decide +kernel)
set_option maxRecDepth 20000 in
theorem gX2_painted_X2_sumOfTurns : GoodIn wsX2_painted (wsV RX2 155 RX2 yX2_sumOfTurns wsX2_sumOfTurns) := goodIn_app (goodIn_of _ (by decide +kernel)) ggX2_painted_X2_sumOfTurns
theorem dX2_painted_0 : decode cX2_painted 0 = .ok (.iload_n 1, 1) := by decide +kernel
theorem dX2_painted_1 : decode cX2_painted 1 = .ok (.tableswitch 42 0 3 #[31, 31, 31, 37], 31) := by decide +kernel
theorem dX2_painted_32 : decode cX2_painted 32 = .ok (.aload_n 0, 1) := by decide +kernel
end
section
theorem dX2_painted_33 : decode cX2_painted 33 = .ok (.iload_n 1, 1) := by decide +kernel
theorem dX2_painted_34 : decode cX2_painted 34 = .ok (.invokevirtual 151, 3) := by decide +kernel
theorem dX2_painted_37 : decode cX2_painted 37 = .ok (.lreturn, 1) := by decide +kernel
theorem dX2_painted_38 : decode cX2_painted 38 = .ok (.aload_n 0, 1) := by decide +kernel
theorem dX2_painted_39 : decode cX2_painted 39 = .ok (.invokevirtual 155, 3) := by decide +kernel
theorem dX2_painted_42 : decode cX2_painted 42 = .ok (.lreturn, 1) := by decide +kernel
theorem dX2_painted_43 : decode cX2_painted 43 = .ok (.ldc2_w 159, 3) := by decide +kernel
theorem dX2_painted_46 : decode cX2_painted 46 = .ok (.lreturn, 1) := by decide +kernel
set_option maxRecDepth 20000 in
theorem ggX2_locate_X2_isPlace : GoodIn wsX2_locate wsX2_isPlace := goodIn_r _ [5] (by decide +kernel) (by decide +kernel)
set_option maxRecDepth 20000 in
theorem gX2_locate_X2_isPlace : GoodIn wsX2_locate (va_wsS RX2 38 yX2_isPlace wsX2_isPlace) := goodIn_app (goodIn_of _ (by decide +kernel)) ggX2_locate_X2_isPlace
set_option maxRecDepth 20000 in
theorem ggX2_locate_X1_thereCount : GoodIn wsX2_locate wsX1_thereCount := goodIn_r _ [10, 11, 57, 58, 59, 60] (by decide +kernel) (by decide +kernel)
set_option maxRecDepth 20000 in
theorem gX2_locate_X1_thereCount : GoodIn wsX2_locate (wsV RX2 127 RX1 yX1_thereCount wsX1_thereCount) := goodIn_app (goodIn_of _ (by decide +kernel)) ggX2_locate_X1_thereCount
set_option maxRecDepth 20000 in
theorem ggX2_locate_X1_numberAt : GoodIn wsX2_locate wsX1_numberAt := goodIn_r _ [15, 16, 57, 58, 59, 60] (by decide +kernel) (by decide +kernel)
set_option maxRecDepth 20000 in
theorem gX2_locate_X1_numberAt : GoodIn wsX2_locate (wsV RX2 131 RX1 yX1_numberAt wsX1_numberAt) := goodIn_app (goodIn_of _ (by decide +kernel)) ggX2_locate_X1_numberAt
set_option maxRecDepth 20000 in
theorem ggX2_locate_X2_isRight : GoodIn wsX2_locate wsX2_isRight := goodIn_r _ [20, 21, 22, 23, 4, 24, 25, 1, 26, 27, 28, 9, 29, 30, 31, 32, 33, 34, 35, 36, 37, 38, 39, 40, 41, 51, 52, 53, 54, 55, 56, 57, 58, 59, 60, 61, 62, 63] (by decide +kernel) (by decide +kernel)
set_option maxRecDepth 20000 in
theorem gX2_locate_X2_isRight : GoodIn wsX2_locate (wsV RX2 135 RX2 yX2_isRight wsX2_isRight) := goodIn_app (goodIn_of _ (by decide +kernel)) ggX2_locate_X2_isRight
set_option maxRecDepth 20000 in
theorem ggX2_locate_X2_hasPlace : GoodIn wsX2_locate wsX2_hasPlace := goodIn_r _ [45, 46, 47, 48, 4, 49, 25, 1, 26, 27, 28, 9, 29, 30, 50, 39, 40, 34, 41, 36, 37, 51, 52, 53, 54, 55, 56, 57, 58, 59, 60, 61, 62, 63] (by decide +kernel) (by decide +kernel)
set_option maxRecDepth 20000 in
theorem gX2_locate_X2_hasPlace : GoodIn wsX2_locate (wsV RX2 161 RX2 yX2_hasPlace wsX2_hasPlace) := goodIn_app (goodIn_of _ (by decide +kernel)) ggX2_locate_X2_hasPlace
theorem dX2_locate_0 : decode cX2_locate 0 = .ok (.iload_n 1, 1) := by decide +kernel
theorem dX2_locate_1 : decode cX2_locate 1 = .ok (.iload_n 2, 1) := by decide +kernel
theorem dX2_locate_2 : decode cX2_locate 2 = .ok (.invokestatic 38, 3) := by decide +kernel
theorem dX2_locate_5 : decode cX2_locate 5 = .ok (.ifCond .ne 5, 3) := by decide +kernel
theorem dX2_locate_8 : decode cX2_locate 8 = .ok (.iconst (-1), 1) := by decide +kernel
theorem dX2_locate_9 : decode cX2_locate 9 = .ok (.ireturn, 1) := by decide +kernel
theorem dX2_locate_10 : decode cX2_locate 10 = .ok (.iconst 0, 1) := by decide +kernel
theorem dX2_locate_11 : decode cX2_locate 11 = .ok (.istore_n 3, 1) := by decide +kernel
theorem dX2_locate_12 : decode cX2_locate 12 = .ok (.iload_n 3, 1) := by decide +kernel
theorem dX2_locate_13 : decode cX2_locate 13 = .ok (.aload_n 0, 1) := by decide +kernel
theorem dX2_locate_14 : decode cX2_locate 14 = .ok (.getfield 19, 3) := by decide +kernel
theorem dX2_locate_17 : decode cX2_locate 17 = .ok (.invokevirtual 127, 3) := by decide +kernel
theorem dX2_locate_20 : decode cX2_locate 20 = .ok (.if_icmp .ge 42, 3) := by decide +kernel
theorem dX2_locate_23 : decode cX2_locate 23 = .ok (.aload_n 0, 1) := by decide +kernel
theorem dX2_locate_24 : decode cX2_locate 24 = .ok (.getfield 19, 3) := by decide +kernel
theorem dX2_locate_27 : decode cX2_locate 27 = .ok (.iload_n 3, 1) := by decide +kernel
theorem dX2_locate_28 : decode cX2_locate 28 = .ok (.invokevirtual 131, 3) := by decide +kernel
theorem dX2_locate_31 : decode cX2_locate 31 = .ok (.istore 4, 2) := by decide +kernel
theorem dX2_locate_33 : decode cX2_locate 33 = .ok (.aload_n 0, 1) := by decide +kernel
theorem dX2_locate_34 : decode cX2_locate 34 = .ok (.iload 4, 2) := by decide +kernel
theorem dX2_locate_36 : decode cX2_locate 36 = .ok (.invokevirtual 135, 3) := by decide +kernel
theorem dX2_locate_39 : decode cX2_locate 39 = .ok (.ifCond .eq 17, 3) := by decide +kernel
theorem dX2_locate_42 : decode cX2_locate 42 = .ok (.aload_n 0, 1) := by decide +kernel
theorem dX2_locate_43 : decode cX2_locate 43 = .ok (.iload 4, 2) := by decide +kernel
theorem dX2_locate_45 : decode cX2_locate 45 = .ok (.iload_n 1, 1) := by decide +kernel
theorem dX2_locate_46 : decode cX2_locate 46 = .ok (.iload_n 2, 1) := by decide +kernel
theorem dX2_locate_47 : decode cX2_locate 47 = .ok (.invokevirtual 161, 3) := by decide +kernel
theorem dX2_locate_50 : decode cX2_locate 50 = .ok (.ifCond .eq 6, 3) := by decide +kernel
theorem dX2_locate_53 : decode cX2_locate 53 = .ok (.iload 4, 2) := by decide +kernel
theorem dX2_locate_55 : decode cX2_locate 55 = .ok (.ireturn, 1) := by decide +kernel
theorem dX2_locate_56 : decode cX2_locate 56 = .ok (.iinc 3 1, 3) := by decide +kernel
theorem dX2_locate_59 : decode cX2_locate 59 = .ok (.goto (-47), 3) := by decide +kernel
theorem dX2_locate_62 : decode cX2_locate 62 = .ok (.iconst (-1), 1) := by decide +kernel
theorem dX2_locate_63 : decode cX2_locate 63 = .ok (.ireturn, 1) := by decide +kernel
set_option maxRecDepth 20000 in
theorem ggX2_beside_X2_isEdge : GoodIn wsX2_beside wsX2_isEdge := goodIn_r _ [6, 1, 7, 8, 9, 10, 11, 12, 13, 27, 28, 29, 30, 31, 32, 33, 34, 35, 36] (by decide +kernel) (by decide +kernel)
set_option maxRecDepth 20000 in
theorem gX2_beside_X2_isEdge : GoodIn wsX2_beside (wsV RX2 113 RX2 yX2_isEdge wsX2_isEdge) := goodIn_app (goodIn_of _ (by decide +kernel)) ggX2_beside_X2_isEdge
set_option maxRecDepth 20000 in
theorem ggX2_beside_X1_neighbour : GoodIn wsX2_beside wsX1_neighbour := goodIn_r _ [17, 12, 13, 18, 19, 20, 10, 21, 22, 23, 24, 25, 26, 33, 34, 35, 36] (by decide +kernel) (by decide +kernel)
set_option maxRecDepth 20000 in
theorem gX2_beside_X1_neighbour : GoodIn wsX2_beside (wsV RX2 164 RX1 yX1_neighbour wsX1_neighbour) := goodIn_app (goodIn_of _ (by decide +kernel)) ggX2_beside_X1_neighbour
theorem dX2_beside_0 : decode cX2_beside 0 = .ok (.aload_n 0, 1) := by decide +kernel
theorem dX2_beside_1 : decode cX2_beside 1 = .ok (.iload_n 1, 1) := by decide +kernel
theorem dX2_beside_2 : decode cX2_beside 2 = .ok (.iload_n 2, 1) := by decide +kernel
theorem dX2_beside_3 : decode cX2_beside 3 = .ok (.invokevirtual 113, 3) := by decide +kernel
theorem dX2_beside_6 : decode cX2_beside 6 = .ok (.ifCond .eq 15, 3) := by decide +kernel
theorem dX2_beside_9 : decode cX2_beside 9 = .ok (.aload_n 0, 1) := by decide +kernel
theorem dX2_beside_10 : decode cX2_beside 10 = .ok (.getfield 19, 3) := by decide +kernel
theorem dX2_beside_13 : decode cX2_beside 13 = .ok (.iload_n 1, 1) := by decide +kernel
theorem dX2_beside_14 : decode cX2_beside 14 = .ok (.iload_n 2, 1) := by decide +kernel
theorem dX2_beside_15 : decode cX2_beside 15 = .ok (.invokevirtual 164, 3) := by decide +kernel
theorem dX2_beside_18 : decode cX2_beside 18 = .ok (.goto 4, 3) := by decide +kernel
theorem dX2_beside_21 : decode cX2_beside 21 = .ok (.iconst (-1), 1) := by decide +kernel
theorem dX2_beside_22 : decode cX2_beside 22 = .ok (.ireturn, 1) := by decide +kernel
set_option maxRecDepth 20000 in
theorem ggX2_isGood_X2_isEdge : GoodIn wsX2_isGood wsX2_isEdge := goodIn_r _ [5, 6, 7, 8, 9, 10, 11, 12, 13, 44, 45, 46, 47, 48, 49, 50, 51, 52, 53] (by decide +kernel) (by decide +kernel)
set_option maxRecDepth 20000 in
theorem gX2_isGood_X2_isEdge : GoodIn wsX2_isGood (wsV RX2 113 RX2 yX2_isEdge wsX2_isEdge) := goodIn_app (goodIn_of _ (by decide +kernel)) ggX2_isGood_X2_isEdge
set_option maxRecDepth 20000 in
theorem ggX2_isGood_X2_isGoodEdge : GoodIn wsX2_isGood wsX2_isGoodEdge := goodIn_r _ [17, 6, 18, 19, 20, 21, 10, 22, 12, 13, 23, 24, 25, 26, 27, 28, 29, 30, 31, 32, 33, 34, 35, 36, 37, 38, 39, 40, 41, 42, 43, 44, 45, 46, 47, 48, 49, 50, 51, 52, 53, 54, 55, 56] (by decide +kernel) (by decide +kernel)
set_option maxRecDepth 20000 in
theorem gX2_isGood_X2_isGoodEdge : GoodIn wsX2_isGood (wsV RX2 167 RX2 yX2_isGoodEdge wsX2_isGoodEdge) := goodIn_app (goodIn_of _ (by decide +kernel)) ggX2_isGood_X2_isGoodEdge
theorem dX2_isGood_0 : decode cX2_isGood 0 = .ok (.aload_n 0, 1) := by decide +kernel
theorem dX2_isGood_1 : decode cX2_isGood 1 = .ok (.iload_n 1, 1) := by decide +kernel
theorem dX2_isGood_2 : decode cX2_isGood 2 = .ok (.iload_n 2, 1) := by decide +kernel
theorem dX2_isGood_3 : decode cX2_isGood 3 = .ok (.invokevirtual 113, 3) := by decide +kernel
theorem dX2_isGood_6 : decode cX2_isGood 6 = .ok (.ifCond .eq 16, 3) := by decide +kernel
theorem dX2_isGood_9 : decode cX2_isGood 9 = .ok (.aload_n 0, 1) := by decide +kernel
theorem dX2_isGood_10 : decode cX2_isGood 10 = .ok (.iload_n 1, 1) := by decide +kernel
theorem dX2_isGood_11 : decode cX2_isGood 11 = .ok (.iload_n 2, 1) := by decide +kernel
theorem dX2_isGood_12 : decode cX2_isGood 12 = .ok (.invokevirtual 167, 3) := by decide +kernel
theorem dX2_isGood_15 : decode cX2_isGood 15 = .ok (.ifCond .eq 7, 3) := by decide +kernel
theorem dX2_isGood_18 : decode cX2_isGood 18 = .ok (.iconst 1, 1) := by decide +kernel
theorem dX2_isGood_19 : decode cX2_isGood 19 = .ok (.goto 4, 3) := by decide +kernel
theorem dX2_isGood_22 : decode cX2_isGood 22 = .ok (.iconst 0, 1) := by decide +kernel
theorem dX2_isGood_23 : decode cX2_isGood 23 = .ok (.ireturn, 1) := by decide +kernel
set_option maxRecDepth 20000 in
theorem ggX2_corner_X2_isEdge : GoodIn wsX2_corner wsX2_isEdge := goodIn_r _ [6, 1, 7, 8, 9, 10, 11, 12, 13, 19, 20, 21, 22, 23, 24, 25, 26, 27, 28] (by decide +kernel) (by decide +kernel)
set_option maxRecDepth 20000 in
theorem gX2_corner_X2_isEdge : GoodIn wsX2_corner (wsV RX2 113 RX2 yX2_isEdge wsX2_isEdge) := goodIn_app (goodIn_of _ (by decide +kernel)) ggX2_corner_X2_isEdge
set_option maxRecDepth 20000 in
theorem ggX2_corner_X1_cornerOf : GoodIn wsX2_corner wsX1_cornerOf := goodIn_r _ [17, 18, 25, 26, 27, 28] (by decide +kernel) (by decide +kernel)
set_option maxRecDepth 20000 in
theorem gX2_corner_X1_cornerOf : GoodIn wsX2_corner (wsV RX2 107 RX1 yX1_cornerOf wsX1_cornerOf) := goodIn_app (goodIn_of _ (by decide +kernel)) ggX2_corner_X1_cornerOf
theorem dX2_corner_0 : decode cX2_corner 0 = .ok (.aload_n 0, 1) := by decide +kernel
theorem dX2_corner_1 : decode cX2_corner 1 = .ok (.iload_n 1, 1) := by decide +kernel
theorem dX2_corner_2 : decode cX2_corner 2 = .ok (.iload_n 2, 1) := by decide +kernel
theorem dX2_corner_3 : decode cX2_corner 3 = .ok (.invokevirtual 113, 3) := by decide +kernel
theorem dX2_corner_6 : decode cX2_corner 6 = .ok (.ifCond .eq 15, 3) := by decide +kernel
theorem dX2_corner_9 : decode cX2_corner 9 = .ok (.aload_n 0, 1) := by decide +kernel
theorem dX2_corner_10 : decode cX2_corner 10 = .ok (.getfield 19, 3) := by decide +kernel
theorem dX2_corner_13 : decode cX2_corner 13 = .ok (.iload_n 1, 1) := by decide +kernel
theorem dX2_corner_14 : decode cX2_corner 14 = .ok (.iload_n 2, 1) := by decide +kernel
theorem dX2_corner_15 : decode cX2_corner 15 = .ok (.invokevirtual 107, 3) := by decide +kernel
theorem dX2_corner_18 : decode cX2_corner 18 = .ok (.goto 4, 3) := by decide +kernel
theorem dX2_corner_21 : decode cX2_corner 21 = .ok (.iconst (-1), 1) := by decide +kernel
theorem dX2_corner_22 : decode cX2_corner 22 = .ok (.ireturn, 1) := by decide +kernel
set_option maxRecDepth 20000 in
theorem ggX2_count_X0_came : GoodIn wsX2_count wsX0_came := goodIn_r _ [7, 8, 107, 108, 109] (by decide +kernel) (by decide +kernel)
set_option maxRecDepth 20000 in
theorem gX2_count_X0_came : GoodIn wsX2_count (wsV RX2 170 RX0 yX0_came wsX0_came) := goodIn_app (goodIn_of _ (by decide +kernel)) ggX2_count_X0_came
set_option maxRecDepth 20000 in
theorem ggX2_count_X1_thereCount : GoodIn wsX2_count wsX1_thereCount := goodIn_r _ [13, 14, 110, 111, 112, 113] (by decide +kernel) (by decide +kernel)
set_option maxRecDepth 20000 in
theorem gX2_count_X1_thereCount : GoodIn wsX2_count (wsV RX2 127 RX1 yX1_thereCount wsX1_thereCount) := goodIn_app (goodIn_of _ (by decide +kernel)) ggX2_count_X1_thereCount
set_option maxRecDepth 20000 in
theorem ggX2_count_X1_came : GoodIn wsX2_count wsX1_came := goodIn_r _ [18, 19, 110, 111, 112, 113] (by decide +kernel) (by decide +kernel)
set_option maxRecDepth 20000 in
theorem gX2_count_X1_came : GoodIn wsX2_count (wsV RX2 173 RX1 yX1_came wsX1_came) := goodIn_app (goodIn_of _ (by decide +kernel)) ggX2_count_X1_came
set_option maxRecDepth 20000 in
theorem ggX2_count_X2_countCornerPoints : GoodIn wsX2_count wsX2_countCornerPoints := goodIn_r _ [24, 2, 9, 10, 11, 12, 13, 14, 25, 26, 27, 28, 29, 30, 31, 32, 33, 34, 35, 36, 23, 37, 38, 39, 40, 41, 42, 43, 44, 101, 102, 103, 104, 105, 106, 110, 111, 112, 113] (by decide +kernel) (by decide +kernel)
set_option maxRecDepth 20000 in
theorem gX2_count_X2_countCornerPoints : GoodIn wsX2_count (wsV RX2 174 RX2 yX2_countCornerPoints wsX2_countCornerPoints) := goodIn_app (goodIn_of _ (by decide +kernel)) ggX2_count_X2_countCornerPoints
set_option maxRecDepth 20000 in
theorem ggX2_count_X2_countDifferentEdges : GoodIn wsX2_count wsX2_countDifferentEdges := goodIn_r _ [48, 49, 2, 50, 51, 52, 53, 54, 55, 56, 57, 58, 59, 60, 9, 10, 11, 12, 13, 14, 25, 26, 27, 28, 29, 30, 31, 32, 33, 34, 35, 36, 23, 37, 38, 39, 40, 41, 42, 43, 44, 101, 102, 103, 104, 105, 106, 110, 111, 112, 113] (by decide +kernel) (by decide +kernel)
set_option maxRecDepth 20000 in
theorem gX2_count_X2_countDifferentEdges : GoodIn wsX2_count (wsV RX2 177 RX2 yX2_countDifferentEdges wsX2_countDifferentEdges) := goodIn_app (goodIn_of _ (by decide +kernel)) ggX2_count_X2_countDifferentEdges
set_option maxRecDepth 20000 in
theorem ggX2_count_X2_countLonelyEdges : GoodIn wsX2_count wsX2_countLonelyEdges := goodIn_r _ [64, 2, 9, 10, 11, 12, 13, 14, 25, 26, 27, 28, 29, 65, 66, 67, 68, 69, 31, 32, 33, 34, 70, 71, 72, 73, 101, 102, 103, 104, 105, 106, 110, 111, 112, 113] (by decide +kernel) (by decide +kernel)
set_option maxRecDepth 20000 in
theorem gX2_count_X2_countLonelyEdges : GoodIn wsX2_count (wsV RX2 180 RX2 yX2_countLonelyEdges wsX2_countLonelyEdges) := goodIn_app (goodIn_of _ (by decide +kernel)) ggX2_count_X2_countLonelyEdges
set_option maxRecDepth 20000 in
theorem ggX2_count_X2_countPieces : GoodIn wsX2_count wsX2_countPieces := goodIn_r _ [77, 2, 78, 9, 10, 11, 12, 13, 14, 25, 26, 27, 28, 29, 65, 66, 67, 68, 69, 31, 32, 33, 34, 70, 71, 72, 73, 79, 80, 81, 23, 82, 101, 102, 103, 104, 105, 106, 110, 111, 112, 113] (by decide +kernel) (by decide +kernel)
set_option maxRecDepth 20000 in
theorem gX2_count_X2_countPieces : GoodIn wsX2_count (wsV RX2 183 RX2 yX2_countPieces wsX2_countPieces) := goodIn_app (goodIn_of _ (by decide +kernel)) ggX2_count_X2_countPieces
set_option maxRecDepth 20000 in
theorem ggX2_count_X2_countBadEdges : GoodIn wsX2_count wsX2_countBadEdges := goodIn_r _ [86, 2, 9, 10, 11, 12, 13, 14, 25, 26, 27, 28, 29, 87, 88, 89, 23, 90, 1, 65, 66, 67, 68, 69, 31, 32, 33, 34, 70, 71, 72, 73, 30, 91, 92, 93, 94, 95, 96, 97, 6, 98, 99, 100, 101, 102, 103, 104, 105, 106, 110, 111, 112, 113, 107, 108, 109] (by decide +kernel) (by decide +kernel)
set_option maxRecDepth 20000 in
theorem gX2_count_X2_countBadEdges : GoodIn wsX2_count (wsV RX2 186 RX2 yX2_countBadEdges wsX2_countBadEdges) := goodIn_app (goodIn_of _ (by decide +kernel)) ggX2_count_X2_countBadEdges
theorem dX2_count_0 : decode cX2_count 0 = .ok (.iload_n 1, 1) := by decide +kernel
theorem dX2_count_1 : decode cX2_count 1 = .ok (.tableswitch 96 0 7 #[47, 55, 63, 71, 76, 81, 86, 91], 47) := by decide +kernel
theorem dX2_count_48 : decode cX2_count 48 = .ok (.aload_n 0, 1) := by decide +kernel
theorem dX2_count_49 : decode cX2_count 49 = .ok (.getfield 10, 3) := by decide +kernel
theorem dX2_count_52 : decode cX2_count 52 = .ok (.invokevirtual 170, 3) := by decide +kernel
theorem dX2_count_55 : decode cX2_count 55 = .ok (.ireturn, 1) := by decide +kernel
theorem dX2_count_56 : decode cX2_count 56 = .ok (.aload_n 0, 1) := by decide +kernel
theorem dX2_count_57 : decode cX2_count 57 = .ok (.getfield 19, 3) := by decide +kernel
theorem dX2_count_60 : decode cX2_count 60 = .ok (.invokevirtual 127, 3) := by decide +kernel
theorem dX2_count_63 : decode cX2_count 63 = .ok (.ireturn, 1) := by decide +kernel
theorem dX2_count_64 : decode cX2_count 64 = .ok (.aload_n 0, 1) := by decide +kernel
theorem dX2_count_65 : decode cX2_count 65 = .ok (.getfield 19, 3) := by decide +kernel
theorem dX2_count_68 : decode cX2_count 68 = .ok (.invokevirtual 173, 3) := by decide +kernel
theorem dX2_count_71 : decode cX2_count 71 = .ok (.ireturn, 1) := by decide +kernel
theorem dX2_count_72 : decode cX2_count 72 = .ok (.aload_n 0, 1) := by decide +kernel
theorem dX2_count_73 : decode cX2_count 73 = .ok (.invokevirtual 174, 3) := by decide +kernel
theorem dX2_count_76 : decode cX2_count 76 = .ok (.ireturn, 1) := by decide +kernel
theorem dX2_count_77 : decode cX2_count 77 = .ok (.aload_n 0, 1) := by decide +kernel
theorem dX2_count_78 : decode cX2_count 78 = .ok (.invokevirtual 177, 3) := by decide +kernel
theorem dX2_count_81 : decode cX2_count 81 = .ok (.ireturn, 1) := by decide +kernel
theorem dX2_count_82 : decode cX2_count 82 = .ok (.aload_n 0, 1) := by decide +kernel
theorem dX2_count_83 : decode cX2_count 83 = .ok (.invokevirtual 180, 3) := by decide +kernel
theorem dX2_count_86 : decode cX2_count 86 = .ok (.ireturn, 1) := by decide +kernel
theorem dX2_count_87 : decode cX2_count 87 = .ok (.aload_n 0, 1) := by decide +kernel
theorem dX2_count_88 : decode cX2_count 88 = .ok (.invokevirtual 183, 3) := by decide +kernel
theorem dX2_count_91 : decode cX2_count 91 = .ok (.ireturn, 1) := by decide +kernel
theorem dX2_count_92 : decode cX2_count 92 = .ok (.aload_n 0, 1) := by decide +kernel
theorem dX2_count_93 : decode cX2_count 93 = .ok (.invokevirtual 186, 3) := by decide +kernel
theorem dX2_count_96 : decode cX2_count 96 = .ok (.ireturn, 1) := by decide +kernel
theorem dX2_count_97 : decode cX2_count 97 = .ok (.iconst (-1), 1) := by decide +kernel
theorem dX2_count_98 : decode cX2_count 98 = .ok (.ireturn, 1) := by decide +kernel
theorem dX2_isPlace_0 : decode cX2_isPlace 0 = .ok (.iload_n 0, 1) := by decide +kernel
theorem dX2_isPlace_1 : decode cX2_isPlace 1 = .ok (.ifCond .lt 25, 3) := by decide +kernel
theorem dX2_isPlace_4 : decode cX2_isPlace 4 = .ok (.iload_n 0, 1) := by decide +kernel
theorem dX2_isPlace_5 : decode cX2_isPlace 5 = .ok (.sipush 512, 3) := by decide +kernel
theorem dX2_isPlace_8 : decode cX2_isPlace 8 = .ok (.if_icmp .ge 18, 3) := by decide +kernel
theorem dX2_isPlace_11 : decode cX2_isPlace 11 = .ok (.iload_n 1, 1) := by decide +kernel
theorem dX2_isPlace_12 : decode cX2_isPlace 12 = .ok (.ifCond .lt 14, 3) := by decide +kernel
theorem dX2_isPlace_15 : decode cX2_isPlace 15 = .ok (.iload_n 1, 1) := by decide +kernel
theorem dX2_isPlace_16 : decode cX2_isPlace 16 = .ok (.sipush 512, 3) := by decide +kernel
theorem dX2_isPlace_19 : decode cX2_isPlace 19 = .ok (.if_icmp .ge 7, 3) := by decide +kernel
theorem dX2_isPlace_22 : decode cX2_isPlace 22 = .ok (.iconst 1, 1) := by decide +kernel
theorem dX2_isPlace_23 : decode cX2_isPlace 23 = .ok (.goto 4, 3) := by decide +kernel
theorem dX2_isPlace_26 : decode cX2_isPlace 26 = .ok (.iconst 0, 1) := by decide +kernel
theorem dX2_isPlace_27 : decode cX2_isPlace 27 = .ok (.ireturn, 1) := by decide +kernel
theorem dX2_isPixel_0 : decode cX2_isPixel 0 = .ok (.iload_n 0, 1) := by decide +kernel
theorem dX2_isPixel_1 : decode cX2_isPixel 1 = .ok (.ifCond .lt 23, 3) := by decide +kernel
theorem dX2_isPixel_4 : decode cX2_isPixel 4 = .ok (.iload_n 0, 1) := by decide +kernel
theorem dX2_isPixel_5 : decode cX2_isPixel 5 = .ok (.bipush 32, 2) := by decide +kernel
theorem dX2_isPixel_7 : decode cX2_isPixel 7 = .ok (.if_icmp .ge 17, 3) := by decide +kernel
theorem dX2_isPixel_10 : decode cX2_isPixel 10 = .ok (.iload_n 1, 1) := by decide +kernel
theorem dX2_isPixel_11 : decode cX2_isPixel 11 = .ok (.ifCond .lt 13, 3) := by decide +kernel
theorem dX2_isPixel_14 : decode cX2_isPixel 14 = .ok (.iload_n 1, 1) := by decide +kernel
theorem dX2_isPixel_15 : decode cX2_isPixel 15 = .ok (.bipush 32, 2) := by decide +kernel
theorem dX2_isPixel_17 : decode cX2_isPixel 17 = .ok (.if_icmp .ge 7, 3) := by decide +kernel
theorem dX2_isPixel_20 : decode cX2_isPixel 20 = .ok (.iconst 1, 1) := by decide +kernel
theorem dX2_isPixel_21 : decode cX2_isPixel 21 = .ok (.goto 4, 3) := by decide +kernel
theorem dX2_isPixel_24 : decode cX2_isPixel 24 = .ok (.iconst 0, 1) := by decide +kernel
theorem dX2_isPixel_25 : decode cX2_isPixel 25 = .ok (.ireturn, 1) := by decide +kernel
theorem dX2_sampleOf_0 : decode cX2_sampleOf 0 = .ok (.bipush 16, 2) := by decide +kernel
theorem dX2_sampleOf_2 : decode cX2_sampleOf 2 = .ok (.iload_n 0, 1) := by decide +kernel
theorem dX2_sampleOf_3 : decode cX2_sampleOf 3 = .ok (.imul, 1) := by decide +kernel
theorem dX2_sampleOf_4 : decode cX2_sampleOf 4 = .ok (.bipush 8, 2) := by decide +kernel
theorem dX2_sampleOf_6 : decode cX2_sampleOf 6 = .ok (.iadd, 1) := by decide +kernel
theorem dX2_sampleOf_7 : decode cX2_sampleOf 7 = .ok (.ireturn, 1) := by decide +kernel
set_option maxRecDepth 20000 in
theorem ggX2_isEdge_X1_isThere : GoodIn wsX2_isEdge wsX1_isThere := goodIn_r _ [6, 7, 8, 15, 16, 17, 18] (by decide +kernel) (by decide +kernel)
set_option maxRecDepth 20000 in
theorem gX2_isEdge_X1_isThere : GoodIn wsX2_isEdge (wsV RX2 90 RX1 yX1_isThere wsX1_isThere) := goodIn_app (goodIn_of _ (by decide +kernel)) ggX2_isEdge_X1_isThere
theorem dX2_isEdge_0 : decode cX2_isEdge 0 = .ok (.iload_n 2, 1) := by decide +kernel
theorem dX2_isEdge_1 : decode cX2_isEdge 1 = .ok (.ifCond .lt 23, 3) := by decide +kernel
theorem dX2_isEdge_4 : decode cX2_isEdge 4 = .ok (.iload_n 2, 1) := by decide +kernel
theorem dX2_isEdge_5 : decode cX2_isEdge 5 = .ok (.iconst 3, 1) := by decide +kernel
theorem dX2_isEdge_6 : decode cX2_isEdge 6 = .ok (.if_icmp .ge 18, 3) := by decide +kernel
theorem dX2_isEdge_9 : decode cX2_isEdge 9 = .ok (.aload_n 0, 1) := by decide +kernel
theorem dX2_isEdge_10 : decode cX2_isEdge 10 = .ok (.getfield 19, 3) := by decide +kernel
theorem dX2_isEdge_13 : decode cX2_isEdge 13 = .ok (.iload_n 1, 1) := by decide +kernel
theorem dX2_isEdge_14 : decode cX2_isEdge 14 = .ok (.invokevirtual 90, 3) := by decide +kernel
theorem dX2_isEdge_17 : decode cX2_isEdge 17 = .ok (.ifCond .eq 7, 3) := by decide +kernel
theorem dX2_isEdge_20 : decode cX2_isEdge 20 = .ok (.iconst 1, 1) := by decide +kernel
theorem dX2_isEdge_21 : decode cX2_isEdge 21 = .ok (.goto 4, 3) := by decide +kernel
theorem dX2_isEdge_24 : decode cX2_isEdge 24 = .ok (.iconst 0, 1) := by decide +kernel
theorem dX2_isEdge_25 : decode cX2_isEdge 25 = .ok (.ireturn, 1) := by decide +kernel
set_option maxRecDepth 20000 in
theorem ggX2_turnOf_X1_cornerOf : GoodIn wsX2_turnOf wsX1_cornerOf := goodIn_r _ [7, 8, 26, 27, 28, 29] (by decide +kernel) (by decide +kernel)
set_option maxRecDepth 20000 in
theorem gX2_turnOf_X1_cornerOf : GoodIn wsX2_turnOf (wsV RX2 107 RX1 yX1_cornerOf wsX1_cornerOf) := goodIn_app (goodIn_of _ (by decide +kernel)) ggX2_turnOf_X1_cornerOf
set_option maxRecDepth 20000 in
theorem ggX2_turnOf_X0_turnOf : GoodIn wsX2_turnOf wsX0_turnOf := goodIn_r _ [13, 14, 15, 16, 17, 18, 12, 19, 30, 31, 32] (by decide +kernel) (by decide +kernel)
set_option maxRecDepth 20000 in
theorem gX2_turnOf_X0_turnOf : GoodIn wsX2_turnOf (wsV RX2 189 RX0 yX0_turnOf wsX0_turnOf) := goodIn_app (goodIn_of _ (by decide +kernel)) ggX2_turnOf_X0_turnOf
theorem dX2_turnOf_0 : decode cX2_turnOf 0 = .ok (.aload_n 0, 1) := by decide +kernel
theorem dX2_turnOf_1 : decode cX2_turnOf 1 = .ok (.getfield 10, 3) := by decide +kernel
theorem dX2_turnOf_4 : decode cX2_turnOf 4 = .ok (.aload_n 0, 1) := by decide +kernel
theorem dX2_turnOf_5 : decode cX2_turnOf 5 = .ok (.getfield 19, 3) := by decide +kernel
theorem dX2_turnOf_8 : decode cX2_turnOf 8 = .ok (.iload_n 1, 1) := by decide +kernel
theorem dX2_turnOf_9 : decode cX2_turnOf 9 = .ok (.iconst 0, 1) := by decide +kernel
theorem dX2_turnOf_10 : decode cX2_turnOf 10 = .ok (.invokevirtual 107, 3) := by decide +kernel
theorem dX2_turnOf_13 : decode cX2_turnOf 13 = .ok (.aload_n 0, 1) := by decide +kernel
theorem dX2_turnOf_14 : decode cX2_turnOf 14 = .ok (.getfield 19, 3) := by decide +kernel
theorem dX2_turnOf_17 : decode cX2_turnOf 17 = .ok (.iload_n 1, 1) := by decide +kernel
theorem dX2_turnOf_18 : decode cX2_turnOf 18 = .ok (.iconst 1, 1) := by decide +kernel
theorem dX2_turnOf_19 : decode cX2_turnOf 19 = .ok (.invokevirtual 107, 3) := by decide +kernel
theorem dX2_turnOf_22 : decode cX2_turnOf 22 = .ok (.aload_n 0, 1) := by decide +kernel
theorem dX2_turnOf_23 : decode cX2_turnOf 23 = .ok (.getfield 19, 3) := by decide +kernel
theorem dX2_turnOf_26 : decode cX2_turnOf 26 = .ok (.iload_n 1, 1) := by decide +kernel
theorem dX2_turnOf_27 : decode cX2_turnOf 27 = .ok (.iconst 2, 1) := by decide +kernel
theorem dX2_turnOf_28 : decode cX2_turnOf 28 = .ok (.invokevirtual 107, 3) := by decide +kernel
theorem dX2_turnOf_31 : decode cX2_turnOf 31 = .ok (.invokevirtual 189, 3) := by decide +kernel
theorem dX2_turnOf_34 : decode cX2_turnOf 34 = .ok (.ireturn, 1) := by decide +kernel
set_option maxRecDepth 20000 in
theorem ggX2_isRight_X2_turnOf : GoodIn wsX2_isRight wsX2_turnOf := goodIn_r _ [5, 6, 7, 8, 9, 10, 11, 12, 13, 14, 15, 16, 17, 18, 19, 20, 21, 22, 23, 24, 25, 26, 27, 28, 29, 30, 31, 32, 33, 34, 35, 36, 37] (by decide +kernel) (by decide +kernel)
set_option maxRecDepth 20000 in
theorem gX2_isRight_X2_turnOf : GoodIn wsX2_isRight (wsV RX2 192 RX2 yX2_turnOf wsX2_turnOf) := goodIn_app (goodIn_of _ (by decide +kernel)) ggX2_isRight_X2_turnOf
theorem dX2_isRight_0 : decode cX2_isRight 0 = .ok (.aload_n 0, 1) := by decide +kernel
theorem dX2_isRight_1 : decode cX2_isRight 1 = .ok (.iload_n 1, 1) := by decide +kernel
theorem dX2_isRight_2 : decode cX2_isRight 2 = .ok (.invokevirtual 192, 3) := by decide +kernel
theorem dX2_isRight_5 : decode cX2_isRight 5 = .ok (.ifCond .le 7, 3) := by decide +kernel
theorem dX2_isRight_8 : decode cX2_isRight 8 = .ok (.iconst 1, 1) := by decide +kernel
theorem dX2_isRight_9 : decode cX2_isRight 9 = .ok (.goto 4, 3) := by decide +kernel
theorem dX2_isRight_12 : decode cX2_isRight 12 = .ok (.iconst 0, 1) := by decide +kernel
theorem dX2_isRight_13 : decode cX2_isRight 13 = .ok (.ireturn, 1) := by decide +kernel
set_option maxRecDepth 20000 in
theorem ggX2_turnBesideEdge_X1_cornerOf : GoodIn wsX2_turnBesideEdge wsX1_cornerOf := goodIn_r _ [7, 8, 22, 23, 24, 25] (by decide +kernel) (by decide +kernel)
set_option maxRecDepth 20000 in
theorem gX2_turnBesideEdge_X1_cornerOf : GoodIn wsX2_turnBesideEdge (wsV RX2 107 RX1 yX1_cornerOf wsX1_cornerOf) := goodIn_app (goodIn_of _ (by decide +kernel)) ggX2_turnBesideEdge_X1_cornerOf
set_option maxRecDepth 20000 in
theorem ggX2_turnBesideEdge_X0_turnAt : GoodIn wsX2_turnBesideEdge wsX0_turnAt := goodIn_r _ [13, 14, 15, 26, 27, 28] (by decide +kernel) (by decide +kernel)
set_option maxRecDepth 20000 in
theorem gX2_turnBesideEdge_X0_turnAt : GoodIn wsX2_turnBesideEdge (wsV RX2 194 RX0 yX0_turnAt wsX0_turnAt) := goodIn_app (goodIn_of _ (by decide +kernel)) ggX2_turnBesideEdge_X0_turnAt
theorem dX2_turnBesideEdge_0 : decode cX2_turnBesideEdge 0 = .ok (.aload_n 0, 1) := by decide +kernel
theorem dX2_turnBesideEdge_1 : decode cX2_turnBesideEdge 1 = .ok (.getfield 10, 3) := by decide +kernel
theorem dX2_turnBesideEdge_4 : decode cX2_turnBesideEdge 4 = .ok (.aload_n 0, 1) := by decide +kernel
theorem dX2_turnBesideEdge_5 : decode cX2_turnBesideEdge 5 = .ok (.getfield 19, 3) := by decide +kernel
theorem dX2_turnBesideEdge_8 : decode cX2_turnBesideEdge 8 = .ok (.iload_n 1, 1) := by decide +kernel
theorem dX2_turnBesideEdge_9 : decode cX2_turnBesideEdge 9 = .ok (.iload_n 2, 1) := by decide +kernel
theorem dX2_turnBesideEdge_10 : decode cX2_turnBesideEdge 10 = .ok (.invokevirtual 107, 3) := by decide +kernel
theorem dX2_turnBesideEdge_13 : decode cX2_turnBesideEdge 13 = .ok (.aload_n 0, 1) := by decide +kernel
theorem dX2_turnBesideEdge_14 : decode cX2_turnBesideEdge 14 = .ok (.getfield 19, 3) := by decide +kernel
theorem dX2_turnBesideEdge_17 : decode cX2_turnBesideEdge 17 = .ok (.iload_n 1, 1) := by decide +kernel
theorem dX2_turnBesideEdge_18 : decode cX2_turnBesideEdge 18 = .ok (.iload_n 2, 1) := by decide +kernel
theorem dX2_turnBesideEdge_19 : decode cX2_turnBesideEdge 19 = .ok (.iconst 1, 1) := by decide +kernel
theorem dX2_turnBesideEdge_20 : decode cX2_turnBesideEdge 20 = .ok (.iadd, 1) := by decide +kernel
theorem dX2_turnBesideEdge_21 : decode cX2_turnBesideEdge 21 = .ok (.invokevirtual 107, 3) := by decide +kernel
theorem dX2_turnBesideEdge_24 : decode cX2_turnBesideEdge 24 = .ok (.iload_n 3, 1) := by decide +kernel
theorem dX2_turnBesideEdge_25 : decode cX2_turnBesideEdge 25 = .ok (.iload 4, 2) := by decide +kernel
theorem dX2_turnBesideEdge_27 : decode cX2_turnBesideEdge 27 = .ok (.invokevirtual 194, 3) := by decide +kernel
theorem dX2_turnBesideEdge_30 : decode cX2_turnBesideEdge 30 = .ok (.ireturn, 1) := by decide +kernel
set_option maxRecDepth 20000 in
theorem ggX2_hasPlace_X2_turnBesideEdge : GoodIn wsX2_hasPlace wsX2_turnBesideEdge := goodIn_r _ [5, 6, 7, 8, 9, 10, 11, 12, 13, 14, 15, 16, 17, 18, 19, 20, 21, 22, 23, 24, 25, 26, 27, 28, 29, 30, 31, 32, 33] (by decide +kernel) (by decide +kernel)
set_option maxRecDepth 20000 in
theorem gX2_hasPlace_X2_turnBesideEdge : GoodIn wsX2_hasPlace (wsV RX2 198 RX2 yX2_turnBesideEdge wsX2_turnBesideEdge) := goodIn_app (goodIn_of _ (by decide +kernel)) ggX2_hasPlace_X2_turnBesideEdge
theorem dX2_hasPlace_0 : decode cX2_hasPlace 0 = .ok (.iconst 0, 1) := by decide +kernel
theorem dX2_hasPlace_1 : decode cX2_hasPlace 1 = .ok (.istore 4, 2) := by decide +kernel
theorem dX2_hasPlace_3 : decode cX2_hasPlace 3 = .ok (.iload 4, 2) := by decide +kernel
theorem dX2_hasPlace_5 : decode cX2_hasPlace 5 = .ok (.iconst 3, 1) := by decide +kernel
theorem dX2_hasPlace_6 : decode cX2_hasPlace 6 = .ok (.if_icmp .ge 23, 3) := by decide +kernel
theorem dX2_hasPlace_9 : decode cX2_hasPlace 9 = .ok (.aload_n 0, 1) := by decide +kernel
theorem dX2_hasPlace_10 : decode cX2_hasPlace 10 = .ok (.iload_n 1, 1) := by decide +kernel
theorem dX2_hasPlace_11 : decode cX2_hasPlace 11 = .ok (.iload 4, 2) := by decide +kernel
theorem dX2_hasPlace_13 : decode cX2_hasPlace 13 = .ok (.iload_n 2, 1) := by decide +kernel
theorem dX2_hasPlace_14 : decode cX2_hasPlace 14 = .ok (.iload_n 3, 1) := by decide +kernel
theorem dX2_hasPlace_15 : decode cX2_hasPlace 15 = .ok (.invokevirtual 198, 3) := by decide +kernel
theorem dX2_hasPlace_18 : decode cX2_hasPlace 18 = .ok (.ifCond .ge 5, 3) := by decide +kernel
theorem dX2_hasPlace_21 : decode cX2_hasPlace 21 = .ok (.iconst 0, 1) := by decide +kernel
theorem dX2_hasPlace_22 : decode cX2_hasPlace 22 = .ok (.ireturn, 1) := by decide +kernel
theorem dX2_hasPlace_23 : decode cX2_hasPlace 23 = .ok (.iinc 4 1, 3) := by decide +kernel
theorem dX2_hasPlace_26 : decode cX2_hasPlace 26 = .ok (.goto (-23), 3) := by decide +kernel
theorem dX2_hasPlace_29 : decode cX2_hasPlace 29 = .ok (.iconst 1, 1) := by decide +kernel
theorem dX2_hasPlace_30 : decode cX2_hasPlace 30 = .ok (.ireturn, 1) := by decide +kernel
set_option maxRecDepth 20000 in
theorem ggX2_isWithin_X2_turnBesideEdge : GoodIn wsX2_isWithin wsX2_turnBesideEdge := goodIn_r _ [5, 6, 7, 8, 9, 10, 11, 12, 13, 14, 15, 16, 17, 18, 19, 20, 21, 22, 23, 24, 25, 26, 27, 28, 29, 30, 31, 32, 33] (by decide +kernel) (by decide +kernel)
set_option maxRecDepth 20000 in
theorem gX2_isWithin_X2_turnBesideEdge : GoodIn wsX2_isWithin (wsV RX2 198 RX2 yX2_turnBesideEdge wsX2_turnBesideEdge) := goodIn_app (goodIn_of _ (by decide +kernel)) ggX2_isWithin_X2_turnBesideEdge
theorem dX2_isWithin_0 : decode cX2_isWithin 0 = .ok (.iconst 0, 1) := by decide +kernel
theorem dX2_isWithin_1 : decode cX2_isWithin 1 = .ok (.istore 4, 2) := by decide +kernel
theorem dX2_isWithin_3 : decode cX2_isWithin 3 = .ok (.iload 4, 2) := by decide +kernel
theorem dX2_isWithin_5 : decode cX2_isWithin 5 = .ok (.iconst 3, 1) := by decide +kernel
theorem dX2_isWithin_6 : decode cX2_isWithin 6 = .ok (.if_icmp .ge 23, 3) := by decide +kernel
theorem dX2_isWithin_9 : decode cX2_isWithin 9 = .ok (.aload_n 0, 1) := by decide +kernel
theorem dX2_isWithin_10 : decode cX2_isWithin 10 = .ok (.iload_n 1, 1) := by decide +kernel
theorem dX2_isWithin_11 : decode cX2_isWithin 11 = .ok (.iload 4, 2) := by decide +kernel
theorem dX2_isWithin_13 : decode cX2_isWithin 13 = .ok (.iload_n 2, 1) := by decide +kernel
theorem dX2_isWithin_14 : decode cX2_isWithin 14 = .ok (.iload_n 3, 1) := by decide +kernel
theorem dX2_isWithin_15 : decode cX2_isWithin 15 = .ok (.invokevirtual 198, 3) := by decide +kernel
theorem dX2_isWithin_18 : decode cX2_isWithin 18 = .ok (.ifCond .gt 5, 3) := by decide +kernel
theorem dX2_isWithin_21 : decode cX2_isWithin 21 = .ok (.iconst 0, 1) := by decide +kernel
theorem dX2_isWithin_22 : decode cX2_isWithin 22 = .ok (.ireturn, 1) := by decide +kernel
theorem dX2_isWithin_23 : decode cX2_isWithin 23 = .ok (.iinc 4 1, 3) := by decide +kernel
theorem dX2_isWithin_26 : decode cX2_isWithin 26 = .ok (.goto (-23), 3) := by decide +kernel
theorem dX2_isWithin_29 : decode cX2_isWithin 29 = .ok (.iconst 1, 1) := by decide +kernel
theorem dX2_isWithin_30 : decode cX2_isWithin 30 = .ok (.ireturn, 1) := by decide +kernel
set_option maxRecDepth 20000 in
theorem ggX2_coversPixel_X2_isRight : GoodIn wsX2_coversPixel wsX2_isRight := goodIn_r _ [5, 6, 7, 8, 4, 9, 10, 11, 12, 13, 14, 15, 16, 17, 18, 19, 20, 21, 22, 23, 24, 25, 26, 27, 28, 53, 54, 55, 56, 57, 58, 59, 60, 61, 62, 63, 64, 65] (by decide +kernel) (by decide +kernel)
set_option maxRecDepth 20000 in
theorem gX2_coversPixel_X2_isRight : GoodIn wsX2_coversPixel (wsV RX2 135 RX2 yX2_isRight wsX2_isRight) := goodIn_app (goodIn_of _ (by decide +kernel)) ggX2_coversPixel_X2_isRight
set_option maxRecDepth 20000 in
theorem ggX2_coversPixel_X2_sampleOf : GoodIn wsX2_coversPixel wsX2_sampleOf := goodIn_r _ [31] (by decide +kernel) (by decide +kernel)
set_option maxRecDepth 20000 in
theorem gX2_coversPixel_X2_sampleOf : GoodIn wsX2_coversPixel (va_wsS RX2 201 yX2_sampleOf wsX2_sampleOf) := goodIn_app (goodIn_of _ (by decide +kernel)) ggX2_coversPixel_X2_sampleOf
set_option maxRecDepth 20000 in
theorem ggX2_coversPixel_X2_liesInsideOrOnOwnEdges : GoodIn wsX2_coversPixel wsX2_liesInsideOrOnOwnEdges := goodIn_r _ [35, 36, 37, 38, 4, 39, 10, 11, 12, 13, 14, 15, 16, 17, 40, 26, 27, 21, 28, 23, 24, 41, 42, 43, 44, 45, 46, 47, 48, 49, 50, 51, 52, 53, 54, 55, 56, 57, 58, 59, 60, 61, 62, 63, 64, 65] (by decide +kernel) (by decide +kernel)
set_option maxRecDepth 20000 in
theorem gX2_coversPixel_X2_liesInsideOrOnOwnEdges : GoodIn wsX2_coversPixel (wsV RX2 204 RX2 yX2_liesInsideOrOnOwnEdges wsX2_liesInsideOrOnOwnEdges) := goodIn_app (goodIn_of _ (by decide +kernel)) ggX2_coversPixel_X2_liesInsideOrOnOwnEdges
theorem dX2_coversPixel_0 : decode cX2_coversPixel 0 = .ok (.aload_n 0, 1) := by decide +kernel
theorem dX2_coversPixel_1 : decode cX2_coversPixel 1 = .ok (.iload_n 1, 1) := by decide +kernel
theorem dX2_coversPixel_2 : decode cX2_coversPixel 2 = .ok (.invokevirtual 135, 3) := by decide +kernel
theorem dX2_coversPixel_5 : decode cX2_coversPixel 5 = .ok (.ifCond .eq 23, 3) := by decide +kernel
theorem dX2_coversPixel_8 : decode cX2_coversPixel 8 = .ok (.aload_n 0, 1) := by decide +kernel
theorem dX2_coversPixel_9 : decode cX2_coversPixel 9 = .ok (.iload_n 1, 1) := by decide +kernel
theorem dX2_coversPixel_10 : decode cX2_coversPixel 10 = .ok (.iload_n 2, 1) := by decide +kernel
theorem dX2_coversPixel_11 : decode cX2_coversPixel 11 = .ok (.invokestatic 201, 3) := by decide +kernel
theorem dX2_coversPixel_14 : decode cX2_coversPixel 14 = .ok (.iload_n 3, 1) := by decide +kernel
theorem dX2_coversPixel_15 : decode cX2_coversPixel 15 = .ok (.invokestatic 201, 3) := by decide +kernel
theorem dX2_coversPixel_18 : decode cX2_coversPixel 18 = .ok (.invokevirtual 204, 3) := by decide +kernel
theorem dX2_coversPixel_21 : decode cX2_coversPixel 21 = .ok (.ifCond .eq 7, 3) := by decide +kernel
theorem dX2_coversPixel_24 : decode cX2_coversPixel 24 = .ok (.iconst 1, 1) := by decide +kernel
theorem dX2_coversPixel_25 : decode cX2_coversPixel 25 = .ok (.goto 4, 3) := by decide +kernel
theorem dX2_coversPixel_28 : decode cX2_coversPixel 28 = .ok (.iconst 0, 1) := by decide +kernel
theorem dX2_coversPixel_29 : decode cX2_coversPixel 29 = .ok (.ireturn, 1) := by decide +kernel
set_option maxRecDepth 20000 in
theorem ggX2_liesInsideOrOnOwnEdges_X2_turnBesideEdge : GoodIn wsX2_liesInsideOrOnOwnEdges wsX2_turnBesideEdge := goodIn_r _ [5, 6, 7, 8, 9, 10, 11, 12, 13, 14, 15, 16, 17, 18, 19, 20, 33, 34, 35, 36, 37, 38, 39, 40, 41, 42, 43, 44, 45] (by decide +kernel) (by decide +kernel)
set_option maxRecDepth 20000 in
theorem gX2_liesInsideOrOnOwnEdges_X2_turnBesideEdge : GoodIn wsX2_liesInsideOrOnOwnEdges (wsV RX2 198 RX2 yX2_turnBesideEdge wsX2_turnBesideEdge) := goodIn_app (goodIn_of _ (by decide +kernel)) ggX2_liesInsideOrOnOwnEdges_X2_turnBesideEdge
set_option maxRecDepth 20000 in
theorem ggX2_liesInsideOrOnOwnEdges_X2_ownsEdge : GoodIn wsX2_liesInsideOrOnOwnEdges wsX2_ownsEdge := goodIn_r _ [24, 7, 6, 8, 9, 10, 11, 12, 13, 25, 26, 27, 17, 28, 20, 29, 30, 31, 32, 19, 33, 34, 35, 36, 37, 38, 39, 40, 41, 42, 43, 44, 45] (by decide +kernel) (by decide +kernel)
set_option maxRecDepth 20000 in
theorem gX2_liesInsideOrOnOwnEdges_X2_ownsEdge : GoodIn wsX2_liesInsideOrOnOwnEdges (wsV RX2 207 RX2 yX2_ownsEdge wsX2_ownsEdge) := goodIn_app (goodIn_of _ (by decide +kernel)) ggX2_liesInsideOrOnOwnEdges_X2_ownsEdge
theorem dX2_liesInsideOrOnOwnEdges_0 : decode cX2_liesInsideOrOnOwnEdges 0 = .ok (.iconst 0, 1) := by decide +kernel
theorem dX2_liesInsideOrOnOwnEdges_1 : decode cX2_liesInsideOrOnOwnEdges 1 = .ok (.istore 4, 2) := by decide +kernel
theorem dX2_liesInsideOrOnOwnEdges_3 : decode cX2_liesInsideOrOnOwnEdges 3 = .ok (.iload 4, 2) := by decide +kernel
theorem dX2_liesInsideOrOnOwnEdges_5 : decode cX2_liesInsideOrOnOwnEdges 5 = .ok (.iconst 3, 1) := by decide +kernel
theorem dX2_liesInsideOrOnOwnEdges_6 : decode cX2_liesInsideOrOnOwnEdges 6 = .ok (.if_icmp .ge 42, 3) := by decide +kernel
theorem dX2_liesInsideOrOnOwnEdges_9 : decode cX2_liesInsideOrOnOwnEdges 9 = .ok (.aload_n 0, 1) := by decide +kernel
theorem dX2_liesInsideOrOnOwnEdges_10 : decode cX2_liesInsideOrOnOwnEdges 10 = .ok (.iload_n 1, 1) := by decide +kernel
theorem dX2_liesInsideOrOnOwnEdges_11 : decode cX2_liesInsideOrOnOwnEdges 11 = .ok (.iload 4, 2) := by decide +kernel
theorem dX2_liesInsideOrOnOwnEdges_13 : decode cX2_liesInsideOrOnOwnEdges 13 = .ok (.iload_n 2, 1) := by decide +kernel
theorem dX2_liesInsideOrOnOwnEdges_14 : decode cX2_liesInsideOrOnOwnEdges 14 = .ok (.iload_n 3, 1) := by decide +kernel
theorem dX2_liesInsideOrOnOwnEdges_15 : decode cX2_liesInsideOrOnOwnEdges 15 = .ok (.invokevirtual 198, 3) := by decide +kernel
theorem dX2_liesInsideOrOnOwnEdges_18 : decode cX2_liesInsideOrOnOwnEdges 18 = .ok (.istore 5, 2) := by decide +kernel
theorem dX2_liesInsideOrOnOwnEdges_20 : decode cX2_liesInsideOrOnOwnEdges 20 = .ok (.iload 5, 2) := by decide +kernel
theorem dX2_liesInsideOrOnOwnEdges_22 : decode cX2_liesInsideOrOnOwnEdges 22 = .ok (.ifCond .lt 18, 3) := by decide +kernel
theorem dX2_liesInsideOrOnOwnEdges_25 : decode cX2_liesInsideOrOnOwnEdges 25 = .ok (.iload 5, 2) := by decide +kernel
theorem dX2_liesInsideOrOnOwnEdges_27 : decode cX2_liesInsideOrOnOwnEdges 27 = .ok (.ifCond .ne 15, 3) := by decide +kernel
theorem dX2_liesInsideOrOnOwnEdges_30 : decode cX2_liesInsideOrOnOwnEdges 30 = .ok (.aload_n 0, 1) := by decide +kernel
theorem dX2_liesInsideOrOnOwnEdges_31 : decode cX2_liesInsideOrOnOwnEdges 31 = .ok (.iload_n 1, 1) := by decide +kernel
theorem dX2_liesInsideOrOnOwnEdges_32 : decode cX2_liesInsideOrOnOwnEdges 32 = .ok (.iload 4, 2) := by decide +kernel
theorem dX2_liesInsideOrOnOwnEdges_34 : decode cX2_liesInsideOrOnOwnEdges 34 = .ok (.invokevirtual 207, 3) := by decide +kernel
theorem dX2_liesInsideOrOnOwnEdges_37 : decode cX2_liesInsideOrOnOwnEdges 37 = .ok (.ifCond .ne 5, 3) := by decide +kernel
theorem dX2_liesInsideOrOnOwnEdges_40 : decode cX2_liesInsideOrOnOwnEdges 40 = .ok (.iconst 0, 1) := by decide +kernel
theorem dX2_liesInsideOrOnOwnEdges_41 : decode cX2_liesInsideOrOnOwnEdges 41 = .ok (.ireturn, 1) := by decide +kernel
theorem dX2_liesInsideOrOnOwnEdges_42 : decode cX2_liesInsideOrOnOwnEdges 42 = .ok (.iinc 4 1, 3) := by decide +kernel
theorem dX2_liesInsideOrOnOwnEdges_45 : decode cX2_liesInsideOrOnOwnEdges 45 = .ok (.goto (-42), 3) := by decide +kernel
theorem dX2_liesInsideOrOnOwnEdges_48 : decode cX2_liesInsideOrOnOwnEdges 48 = .ok (.iconst 1, 1) := by decide +kernel
theorem dX2_liesInsideOrOnOwnEdges_49 : decode cX2_liesInsideOrOnOwnEdges 49 = .ok (.ireturn, 1) := by decide +kernel
set_option maxRecDepth 20000 in
theorem ggX2_ownsEdge_X1_cornerOf : GoodIn wsX2_ownsEdge wsX1_cornerOf := goodIn_r _ [7, 8, 26, 27, 28, 29] (by decide +kernel) (by decide +kernel)
set_option maxRecDepth 20000 in
theorem gX2_ownsEdge_X1_cornerOf : GoodIn wsX2_ownsEdge (wsV RX2 107 RX1 yX1_cornerOf wsX1_cornerOf) := goodIn_app (goodIn_of _ (by decide +kernel)) ggX2_ownsEdge_X1_cornerOf
set_option maxRecDepth 20000 in
theorem ggX2_ownsEdge_X0_y : GoodIn wsX2_ownsEdge wsX0_y := goodIn_r _ [13, 14, 30, 31, 32] (by decide +kernel) (by decide +kernel)
set_option maxRecDepth 20000 in
theorem gX2_ownsEdge_X0_y : GoodIn wsX2_ownsEdge (wsV RX2 210 RX0 yX0_y wsX0_y) := goodIn_app (goodIn_of _ (by decide +kernel)) ggX2_ownsEdge_X0_y
set_option maxRecDepth 20000 in
theorem ggX2_ownsEdge_X0_x : GoodIn wsX2_ownsEdge wsX0_x := goodIn_r _ [18, 19, 30, 31, 32] (by decide +kernel) (by decide +kernel)
set_option maxRecDepth 20000 in
theorem gX2_ownsEdge_X0_x : GoodIn wsX2_ownsEdge (wsV RX2 213 RX0 yX0_x wsX0_x) := goodIn_app (goodIn_of _ (by decide +kernel)) ggX2_ownsEdge_X0_x
theorem dX2_ownsEdge_0 : decode cX2_ownsEdge 0 = .ok (.aload_n 0, 1) := by decide +kernel
theorem dX2_ownsEdge_1 : decode cX2_ownsEdge 1 = .ok (.getfield 19, 3) := by decide +kernel
theorem dX2_ownsEdge_4 : decode cX2_ownsEdge 4 = .ok (.iload_n 1, 1) := by decide +kernel
theorem dX2_ownsEdge_5 : decode cX2_ownsEdge 5 = .ok (.iload_n 2, 1) := by decide +kernel
theorem dX2_ownsEdge_6 : decode cX2_ownsEdge 6 = .ok (.invokevirtual 107, 3) := by decide +kernel
theorem dX2_ownsEdge_9 : decode cX2_ownsEdge 9 = .ok (.istore_n 3, 1) := by decide +kernel
theorem dX2_ownsEdge_10 : decode cX2_ownsEdge 10 = .ok (.aload_n 0, 1) := by decide +kernel
theorem dX2_ownsEdge_11 : decode cX2_ownsEdge 11 = .ok (.getfield 19, 3) := by decide +kernel
theorem dX2_ownsEdge_14 : decode cX2_ownsEdge 14 = .ok (.iload_n 1, 1) := by decide +kernel
theorem dX2_ownsEdge_15 : decode cX2_ownsEdge 15 = .ok (.iload_n 2, 1) := by decide +kernel
theorem dX2_ownsEdge_16 : decode cX2_ownsEdge 16 = .ok (.iconst 1, 1) := by decide +kernel
theorem dX2_ownsEdge_17 : decode cX2_ownsEdge 17 = .ok (.iadd, 1) := by decide +kernel
theorem dX2_ownsEdge_18 : decode cX2_ownsEdge 18 = .ok (.invokevirtual 107, 3) := by decide +kernel
theorem dX2_ownsEdge_21 : decode cX2_ownsEdge 21 = .ok (.istore 4, 2) := by decide +kernel
theorem dX2_ownsEdge_23 : decode cX2_ownsEdge 23 = .ok (.aload_n 0, 1) := by decide +kernel
theorem dX2_ownsEdge_24 : decode cX2_ownsEdge 24 = .ok (.getfield 10, 3) := by decide +kernel
theorem dX2_ownsEdge_27 : decode cX2_ownsEdge 27 = .ok (.iload 4, 2) := by decide +kernel
theorem dX2_ownsEdge_29 : decode cX2_ownsEdge 29 = .ok (.invokevirtual 210, 3) := by decide +kernel
theorem dX2_ownsEdge_32 : decode cX2_ownsEdge 32 = .ok (.aload_n 0, 1) := by decide +kernel
theorem dX2_ownsEdge_33 : decode cX2_ownsEdge 33 = .ok (.getfield 10, 3) := by decide +kernel
theorem dX2_ownsEdge_36 : decode cX2_ownsEdge 36 = .ok (.iload_n 3, 1) := by decide +kernel
theorem dX2_ownsEdge_37 : decode cX2_ownsEdge 37 = .ok (.invokevirtual 210, 3) := by decide +kernel
theorem dX2_ownsEdge_40 : decode cX2_ownsEdge 40 = .ok (.if_icmp .lt 43, 3) := by decide +kernel
theorem dX2_ownsEdge_43 : decode cX2_ownsEdge 43 = .ok (.aload_n 0, 1) := by decide +kernel
theorem dX2_ownsEdge_44 : decode cX2_ownsEdge 44 = .ok (.getfield 10, 3) := by decide +kernel
theorem dX2_ownsEdge_47 : decode cX2_ownsEdge 47 = .ok (.iload 4, 2) := by decide +kernel
theorem dX2_ownsEdge_49 : decode cX2_ownsEdge 49 = .ok (.invokevirtual 210, 3) := by decide +kernel
theorem dX2_ownsEdge_52 : decode cX2_ownsEdge 52 = .ok (.aload_n 0, 1) := by decide +kernel
theorem dX2_ownsEdge_53 : decode cX2_ownsEdge 53 = .ok (.getfield 10, 3) := by decide +kernel
theorem dX2_ownsEdge_56 : decode cX2_ownsEdge 56 = .ok (.iload_n 3, 1) := by decide +kernel
theorem dX2_ownsEdge_57 : decode cX2_ownsEdge 57 = .ok (.invokevirtual 210, 3) := by decide +kernel
theorem dX2_ownsEdge_60 : decode cX2_ownsEdge 60 = .ok (.if_icmp .ne 27, 3) := by decide +kernel
theorem dX2_ownsEdge_63 : decode cX2_ownsEdge 63 = .ok (.aload_n 0, 1) := by decide +kernel
theorem dX2_ownsEdge_64 : decode cX2_ownsEdge 64 = .ok (.getfield 10, 3) := by decide +kernel
theorem dX2_ownsEdge_67 : decode cX2_ownsEdge 67 = .ok (.iload 4, 2) := by decide +kernel
theorem dX2_ownsEdge_69 : decode cX2_ownsEdge 69 = .ok (.invokevirtual 213, 3) := by decide +kernel
theorem dX2_ownsEdge_72 : decode cX2_ownsEdge 72 = .ok (.aload_n 0, 1) := by decide +kernel
theorem dX2_ownsEdge_73 : decode cX2_ownsEdge 73 = .ok (.getfield 10, 3) := by decide +kernel
theorem dX2_ownsEdge_76 : decode cX2_ownsEdge 76 = .ok (.iload_n 3, 1) := by decide +kernel
theorem dX2_ownsEdge_77 : decode cX2_ownsEdge 77 = .ok (.invokevirtual 213, 3) := by decide +kernel
theorem dX2_ownsEdge_80 : decode cX2_ownsEdge 80 = .ok (.if_icmp .ge 7, 3) := by decide +kernel
theorem dX2_ownsEdge_83 : decode cX2_ownsEdge 83 = .ok (.iconst 1, 1) := by decide +kernel
theorem dX2_ownsEdge_84 : decode cX2_ownsEdge 84 = .ok (.goto 4, 3) := by decide +kernel
theorem dX2_ownsEdge_87 : decode cX2_ownsEdge 87 = .ok (.iconst 0, 1) := by decide +kernel
theorem dX2_ownsEdge_88 : decode cX2_ownsEdge 88 = .ok (.ireturn, 1) := by decide +kernel
set_option maxRecDepth 20000 in
theorem ggX2_paintedPixels_X2_paintedInRow : GoodIn wsX2_paintedPixels wsX2_paintedInRow := goodIn_r _ [5, 6, 7, 8, 9, 10, 11, 12, 13, 14, 15, 16, 17, 18, 19, 20, 4, 21, 22, 23, 24, 25, 26, 27, 28, 29, 30, 31, 32, 33, 34, 35, 36, 37, 38, 39, 40, 41, 42, 43, 44, 45, 46, 47, 48, 49, 50, 51, 52, 53, 54, 55, 56, 57, 58, 59, 60, 61, 62, 63, 64, 65, 66, 67, 68, 69, 70, 71, 72, 73, 74, 75, 76, 77, 78, 79, 80, 81, 82, 83, 84, 85, 86, 87, 88, 89, 90, 91, 92, 93, 94, 95, 96, 97, 98, 99, 100, 101, 102, 103, 104, 105, 106, 107, 108, 109, 110, 111, 112, 113, 114, 115, 116, 117, 118, 119, 120, 121] (by decide +kernel) (by decide +kernel)
set_option maxRecDepth 20000 in
theorem gX2_paintedPixels_X2_paintedInRow : GoodIn wsX2_paintedPixels (wsV RX2 216 RX2 yX2_paintedInRow wsX2_paintedInRow) := goodIn_app (goodIn_of _ (by decide +kernel)) ggX2_paintedPixels_X2_paintedInRow
theorem dX2_paintedPixels_0 : decode cX2_paintedPixels 0 = .ok (.lconst 0, 1) := by decide +kernel
theorem dX2_paintedPixels_1 : decode cX2_paintedPixels 1 = .ok (.lstore_n 2, 1) := by decide +kernel
theorem dX2_paintedPixels_2 : decode cX2_paintedPixels 2 = .ok (.iconst 0, 1) := by decide +kernel
theorem dX2_paintedPixels_3 : decode cX2_paintedPixels 3 = .ok (.istore 4, 2) := by decide +kernel
theorem dX2_paintedPixels_5 : decode cX2_paintedPixels 5 = .ok (.iload 4, 2) := by decide +kernel
theorem dX2_paintedPixels_7 : decode cX2_paintedPixels 7 = .ok (.bipush 32, 2) := by decide +kernel
theorem dX2_paintedPixels_9 : decode cX2_paintedPixels 9 = .ok (.if_icmp .ge 20, 3) := by decide +kernel
theorem dX2_paintedPixels_12 : decode cX2_paintedPixels 12 = .ok (.lload_n 2, 1) := by decide +kernel
theorem dX2_paintedPixels_13 : decode cX2_paintedPixels 13 = .ok (.aload_n 0, 1) := by decide +kernel
theorem dX2_paintedPixels_14 : decode cX2_paintedPixels 14 = .ok (.iload 4, 2) := by decide +kernel
theorem dX2_paintedPixels_16 : decode cX2_paintedPixels 16 = .ok (.iload_n 1, 1) := by decide +kernel
theorem dX2_paintedPixels_17 : decode cX2_paintedPixels 17 = .ok (.invokevirtual 216, 3) := by decide +kernel
theorem dX2_paintedPixels_20 : decode cX2_paintedPixels 20 = .ok (.i2l, 1) := by decide +kernel
theorem dX2_paintedPixels_21 : decode cX2_paintedPixels 21 = .ok (.ladd, 1) := by decide +kernel
theorem dX2_paintedPixels_22 : decode cX2_paintedPixels 22 = .ok (.lstore_n 2, 1) := by decide +kernel
theorem dX2_paintedPixels_23 : decode cX2_paintedPixels 23 = .ok (.iinc 4 1, 3) := by decide +kernel
theorem dX2_paintedPixels_26 : decode cX2_paintedPixels 26 = .ok (.goto (-21), 3) := by decide +kernel
theorem dX2_paintedPixels_29 : decode cX2_paintedPixels 29 = .ok (.lload_n 2, 1) := by decide +kernel
theorem dX2_paintedPixels_30 : decode cX2_paintedPixels 30 = .ok (.lreturn, 1) := by decide +kernel
set_option maxRecDepth 20000 in
theorem ggX2_paintedInRow_X1_thereCount : GoodIn wsX2_paintedInRow wsX1_thereCount := goodIn_r _ [6, 7, 111, 112, 113, 114] (by decide +kernel) (by decide +kernel)
set_option maxRecDepth 20000 in
theorem gX2_paintedInRow_X1_thereCount : GoodIn wsX2_paintedInRow (wsV RX2 127 RX1 yX1_thereCount wsX1_thereCount) := goodIn_app (goodIn_of _ (by decide +kernel)) ggX2_paintedInRow_X1_thereCount
set_option maxRecDepth 20000 in
theorem ggX2_paintedInRow_X1_numberAt : GoodIn wsX2_paintedInRow wsX1_numberAt := goodIn_r _ [11, 12, 111, 112, 113, 114] (by decide +kernel) (by decide +kernel)
set_option maxRecDepth 20000 in
theorem gX2_paintedInRow_X1_numberAt : GoodIn wsX2_paintedInRow (wsV RX2 131 RX1 yX1_numberAt wsX1_numberAt) := goodIn_app (goodIn_of _ (by decide +kernel)) ggX2_paintedInRow_X1_numberAt
set_option maxRecDepth 20000 in
theorem ggX2_paintedInRow_X2_coveredBits : GoodIn wsX2_paintedInRow wsX2_coveredBits := goodIn_r _ [17, 18, 19, 20, 16, 21, 22, 23, 24, 25, 26, 27, 28, 29, 30, 1, 31, 32, 33, 5, 34, 35, 36, 37, 38, 39, 40, 41, 42, 43, 44, 45, 46, 47, 48, 49, 50, 51, 52, 53, 54, 55, 56, 57, 58, 59, 60, 61, 62, 63, 64, 65, 66, 67, 68, 69, 70, 71, 72, 73, 74, 75, 76, 77, 78, 79, 80, 81, 82, 83, 84, 85, 86, 87, 88, 89, 90, 91, 92, 93, 94, 95, 96, 97, 105, 106, 107, 108, 109, 110, 111, 112, 113, 114, 115, 116, 117] (by decide +kernel) (by decide +kernel)
set_option maxRecDepth 20000 in
theorem gX2_paintedInRow_X2_coveredBits : GoodIn wsX2_paintedInRow (wsV RX2 219 RX2 yX2_coveredBits wsX2_coveredBits) := goodIn_app (goodIn_of _ (by decide +kernel)) ggX2_paintedInRow_X2_coveredBits
set_option maxRecDepth 20000 in
theorem ggX2_paintedInRow_J6_bitCount_0f7a4 : GoodIn wsX2_paintedInRow wsJ6_bitCount_0f7a4 := goodIn_r _ [101, 102, 103, 104] (by decide +kernel) (by decide +kernel)
set_option maxRecDepth 20000 in
theorem gX2_paintedInRow_J6_bitCount_0f7a4 : GoodIn wsX2_paintedInRow (va_wsS RX2 222 yJ6_bitCount_0f7a4 wsJ6_bitCount_0f7a4) := goodIn_app (goodIn_of _ (by decide +kernel)) ggX2_paintedInRow_J6_bitCount_0f7a4
theorem dX2_paintedInRow_0 : decode cX2_paintedInRow 0 = .ok (.iconst 0, 1) := by decide +kernel
theorem dX2_paintedInRow_1 : decode cX2_paintedInRow 1 = .ok (.istore_n 3, 1) := by decide +kernel
theorem dX2_paintedInRow_2 : decode cX2_paintedInRow 2 = .ok (.iconst 0, 1) := by decide +kernel
theorem dX2_paintedInRow_3 : decode cX2_paintedInRow 3 = .ok (.istore 4, 2) := by decide +kernel
theorem dX2_paintedInRow_5 : decode cX2_paintedInRow 5 = .ok (.iconst 0, 1) := by decide +kernel
theorem dX2_paintedInRow_6 : decode cX2_paintedInRow 6 = .ok (.istore 5, 2) := by decide +kernel
theorem dX2_paintedInRow_8 : decode cX2_paintedInRow 8 = .ok (.iconst 0, 1) := by decide +kernel
theorem dX2_paintedInRow_9 : decode cX2_paintedInRow 9 = .ok (.istore 6, 2) := by decide +kernel
theorem dX2_paintedInRow_11 : decode cX2_paintedInRow 11 = .ok (.iload 6, 2) := by decide +kernel
theorem dX2_paintedInRow_13 : decode cX2_paintedInRow 13 = .ok (.aload_n 0, 1) := by decide +kernel
theorem dX2_paintedInRow_14 : decode cX2_paintedInRow 14 = .ok (.getfield 19, 3) := by decide +kernel
theorem dX2_paintedInRow_17 : decode cX2_paintedInRow 17 = .ok (.invokevirtual 127, 3) := by decide +kernel
theorem dX2_paintedInRow_20 : decode cX2_paintedInRow 20 = .ok (.if_icmp .ge 49, 3) := by decide +kernel
theorem dX2_paintedInRow_23 : decode cX2_paintedInRow 23 = .ok (.aload_n 0, 1) := by decide +kernel
theorem dX2_paintedInRow_24 : decode cX2_paintedInRow 24 = .ok (.aload_n 0, 1) := by decide +kernel
theorem dX2_paintedInRow_25 : decode cX2_paintedInRow 25 = .ok (.getfield 19, 3) := by decide +kernel
theorem dX2_paintedInRow_28 : decode cX2_paintedInRow 28 = .ok (.iload 6, 2) := by decide +kernel
theorem dX2_paintedInRow_30 : decode cX2_paintedInRow 30 = .ok (.invokevirtual 131, 3) := by decide +kernel
theorem dX2_paintedInRow_33 : decode cX2_paintedInRow 33 = .ok (.iload_n 1, 1) := by decide +kernel
theorem dX2_paintedInRow_34 : decode cX2_paintedInRow 34 = .ok (.invokevirtual 219, 3) := by decide +kernel
theorem dX2_paintedInRow_37 : decode cX2_paintedInRow 37 = .ok (.istore 7, 2) := by decide +kernel
theorem dX2_paintedInRow_39 : decode cX2_paintedInRow 39 = .ok (.iload 4, 2) := by decide +kernel
theorem dX2_paintedInRow_41 : decode cX2_paintedInRow 41 = .ok (.iload_n 3, 1) := by decide +kernel
theorem dX2_paintedInRow_42 : decode cX2_paintedInRow 42 = .ok (.iload 7, 2) := by decide +kernel
theorem dX2_paintedInRow_44 : decode cX2_paintedInRow 44 = .ok (.iand, 1) := by decide +kernel
theorem dX2_paintedInRow_45 : decode cX2_paintedInRow 45 = .ok (.ior, 1) := by decide +kernel
theorem dX2_paintedInRow_46 : decode cX2_paintedInRow 46 = .ok (.istore 4, 2) := by decide +kernel
theorem dX2_paintedInRow_48 : decode cX2_paintedInRow 48 = .ok (.iload_n 3, 1) := by decide +kernel
theorem dX2_paintedInRow_49 : decode cX2_paintedInRow 49 = .ok (.iload 7, 2) := by decide +kernel
theorem dX2_paintedInRow_51 : decode cX2_paintedInRow 51 = .ok (.ior, 1) := by decide +kernel
theorem dX2_paintedInRow_52 : decode cX2_paintedInRow 52 = .ok (.istore_n 3, 1) := by decide +kernel
theorem dX2_paintedInRow_53 : decode cX2_paintedInRow 53 = .ok (.iload 5, 2) := by decide +kernel
theorem dX2_paintedInRow_55 : decode cX2_paintedInRow 55 = .ok (.iload 7, 2) := by decide +kernel
theorem dX2_paintedInRow_57 : decode cX2_paintedInRow 57 = .ok (.invokestatic 222, 3) := by decide +kernel
theorem dX2_paintedInRow_60 : decode cX2_paintedInRow 60 = .ok (.iadd, 1) := by decide +kernel
theorem dX2_paintedInRow_61 : decode cX2_paintedInRow 61 = .ok (.istore 5, 2) := by decide +kernel
theorem dX2_paintedInRow_63 : decode cX2_paintedInRow 63 = .ok (.iinc 6 1, 3) := by decide +kernel
theorem dX2_paintedInRow_66 : decode cX2_paintedInRow 66 = .ok (.goto (-55), 3) := by decide +kernel
theorem dX2_paintedInRow_69 : decode cX2_paintedInRow 69 = .ok (.iload_n 2, 1) := by decide +kernel
theorem dX2_paintedInRow_70 : decode cX2_paintedInRow 70 = .ok (.lookupswitch 37 #[(0, 26), (1, 31)], 26) := by decide +kernel
theorem dX2_paintedInRow_96 : decode cX2_paintedInRow 96 = .ok (.iload_n 3, 1) := by decide +kernel
theorem dX2_paintedInRow_97 : decode cX2_paintedInRow 97 = .ok (.invokestatic 222, 3) := by decide +kernel
theorem dX2_paintedInRow_100 : decode cX2_paintedInRow 100 = .ok (.ireturn, 1) := by decide +kernel
theorem dX2_paintedInRow_101 : decode cX2_paintedInRow 101 = .ok (.iload 4, 2) := by decide +kernel
theorem dX2_paintedInRow_103 : decode cX2_paintedInRow 103 = .ok (.invokestatic 222, 3) := by decide +kernel
theorem dX2_paintedInRow_106 : decode cX2_paintedInRow 106 = .ok (.ireturn, 1) := by decide +kernel
theorem dX2_paintedInRow_107 : decode cX2_paintedInRow 107 = .ok (.iload 5, 2) := by decide +kernel
theorem dX2_paintedInRow_109 : decode cX2_paintedInRow 109 = .ok (.ireturn, 1) := by decide +kernel
set_option maxRecDepth 20000 in
theorem ggX2_coveredBits_X2_lowest : GoodIn wsX2_coveredBits wsX2_lowest := goodIn_r _ [5, 6, 7, 8, 9, 10, 11, 12, 4, 13, 14, 15, 16, 17, 18, 19, 20, 21, 22, 23, 24, 25, 26, 27, 84, 85, 86, 87, 88, 89, 90, 91, 92, 93, 94, 95, 96] (by decide +kernel) (by decide +kernel)
set_option maxRecDepth 20000 in
theorem gX2_coveredBits_X2_lowest : GoodIn wsX2_coveredBits (wsV RX2 227 RX2 yX2_lowest wsX2_lowest) := goodIn_app (goodIn_of _ (by decide +kernel)) ggX2_coveredBits_X2_lowest
set_option maxRecDepth 20000 in
theorem ggX2_coveredBits_X2_highest : GoodIn wsX2_coveredBits wsX2_highest := goodIn_r _ [31, 32, 33, 8, 34, 10, 11, 12, 4, 13, 14, 15, 16, 17, 18, 19, 20, 21, 22, 23, 24, 25, 26, 27, 84, 85, 86, 87, 88, 89, 90, 91, 92, 93, 94, 95, 96] (by decide +kernel) (by decide +kernel)
end
section
set_option maxRecDepth 20000 in
theorem gX2_coveredBits_X2_highest : GoodIn wsX2_coveredBits (wsV RX2 230 RX2 yX2_highest wsX2_highest) := goodIn_app (goodIn_of _ (by decide +kernel)) ggX2_coveredBits_X2_highest
set_option maxRecDepth 20000 in
theorem ggX2_coveredBits_X2_isRight : GoodIn wsX2_coveredBits wsX2_isRight := goodIn_r _ [38, 39, 40, 41, 4, 42, 14, 15, 16, 17, 18, 19, 20, 21, 43, 44, 45, 25, 46, 47, 27, 48, 49, 50, 51, 84, 85, 86, 87, 88, 89, 90, 91, 92, 93, 94, 95, 96] (by decide +kernel) (by decide +kernel)
set_option maxRecDepth 20000 in
theorem gX2_coveredBits_X2_isRight : GoodIn wsX2_coveredBits (wsV RX2 135 RX2 yX2_isRight wsX2_isRight) := goodIn_app (goodIn_of _ (by decide +kernel)) ggX2_coveredBits_X2_isRight
set_option maxRecDepth 20000 in
theorem ggX2_coveredBits_X2_rightmost : GoodIn wsX2_coveredBits wsX2_rightmost := goodIn_r _ [55, 32, 33, 8, 34, 56, 57, 58, 4, 59, 14, 15, 16, 17, 18, 19, 20, 21, 60, 61, 62, 25, 63, 47, 84, 85, 86, 87, 88, 89, 90, 91, 92, 93, 94, 95, 96] (by decide +kernel) (by decide +kernel)
set_option maxRecDepth 20000 in
theorem gX2_coveredBits_X2_rightmost : GoodIn wsX2_coveredBits (wsV RX2 233 RX2 yX2_rightmost wsX2_rightmost) := goodIn_app (goodIn_of _ (by decide +kernel)) ggX2_coveredBits_X2_rightmost
set_option maxRecDepth 20000 in
theorem ggX2_coveredBits_X2_leftmost : GoodIn wsX2_coveredBits wsX2_leftmost := goodIn_r _ [67, 6, 7, 8, 9, 56, 57, 58, 4, 59, 14, 15, 16, 17, 18, 19, 20, 21, 60, 61, 62, 25, 63, 47, 84, 85, 86, 87, 88, 89, 90, 91, 92, 93, 94, 95, 96] (by decide +kernel) (by decide +kernel)
set_option maxRecDepth 20000 in
theorem gX2_coveredBits_X2_leftmost : GoodIn wsX2_coveredBits (wsV RX2 236 RX2 yX2_leftmost wsX2_leftmost) := goodIn_app (goodIn_of _ (by decide +kernel)) ggX2_coveredBits_X2_leftmost
set_option maxRecDepth 20000 in
theorem ggX2_coveredBits_X2_sampleOf : GoodIn wsX2_coveredBits wsX2_sampleOf := goodIn_r _ [70] (by decide +kernel) (by decide +kernel)
set_option maxRecDepth 20000 in
theorem gX2_coveredBits_X2_sampleOf : GoodIn wsX2_coveredBits (va_wsS RX2 201 yX2_sampleOf wsX2_sampleOf) := goodIn_app (goodIn_of _ (by decide +kernel)) ggX2_coveredBits_X2_sampleOf
set_option maxRecDepth 20000 in
theorem ggX2_coveredBits_X2_liesInsideOrOnOwnEdges : GoodIn wsX2_coveredBits wsX2_liesInsideOrOnOwnEdges := goodIn_r _ [74, 75, 76, 77, 4, 78, 14, 15, 16, 17, 18, 19, 20, 21, 79, 49, 50, 25, 51, 47, 27, 80, 81, 82, 83, 22, 23, 24, 26, 60, 61, 62, 63, 84, 85, 86, 87, 88, 89, 90, 91, 92, 93, 94, 95, 96] (by decide +kernel) (by decide +kernel)
set_option maxRecDepth 20000 in
theorem gX2_coveredBits_X2_liesInsideOrOnOwnEdges : GoodIn wsX2_coveredBits (wsV RX2 204 RX2 yX2_liesInsideOrOnOwnEdges wsX2_liesInsideOrOnOwnEdges) := goodIn_app (goodIn_of _ (by decide +kernel)) ggX2_coveredBits_X2_liesInsideOrOnOwnEdges
theorem dX2_coveredBits_0 : decode cX2_coveredBits 0 = .ok (.iload_n 2, 1) := by decide +kernel
theorem dX2_coveredBits_1 : decode cX2_coveredBits 1 = .ok (.aload_n 0, 1) := by decide +kernel
theorem dX2_coveredBits_2 : decode cX2_coveredBits 2 = .ok (.iload_n 1, 1) := by decide +kernel
theorem dX2_coveredBits_3 : decode cX2_coveredBits 3 = .ok (.invokevirtual 227, 3) := by decide +kernel
theorem dX2_coveredBits_6 : decode cX2_coveredBits 6 = .ok (.bipush 16, 2) := by decide +kernel
theorem dX2_coveredBits_8 : decode cX2_coveredBits 8 = .ok (.idiv, 1) := by decide +kernel
theorem dX2_coveredBits_9 : decode cX2_coveredBits 9 = .ok (.if_icmp .lt 23, 3) := by decide +kernel
theorem dX2_coveredBits_12 : decode cX2_coveredBits 12 = .ok (.iload_n 2, 1) := by decide +kernel
theorem dX2_coveredBits_13 : decode cX2_coveredBits 13 = .ok (.aload_n 0, 1) := by decide +kernel
theorem dX2_coveredBits_14 : decode cX2_coveredBits 14 = .ok (.iload_n 1, 1) := by decide +kernel
theorem dX2_coveredBits_15 : decode cX2_coveredBits 15 = .ok (.invokevirtual 230, 3) := by decide +kernel
theorem dX2_coveredBits_18 : decode cX2_coveredBits 18 = .ok (.bipush 16, 2) := by decide +kernel
theorem dX2_coveredBits_20 : decode cX2_coveredBits 20 = .ok (.idiv, 1) := by decide +kernel
theorem dX2_coveredBits_21 : decode cX2_coveredBits 21 = .ok (.if_icmp .gt 11, 3) := by decide +kernel
theorem dX2_coveredBits_24 : decode cX2_coveredBits 24 = .ok (.aload_n 0, 1) := by decide +kernel
theorem dX2_coveredBits_25 : decode cX2_coveredBits 25 = .ok (.iload_n 1, 1) := by decide +kernel
theorem dX2_coveredBits_26 : decode cX2_coveredBits 26 = .ok (.invokevirtual 135, 3) := by decide +kernel
theorem dX2_coveredBits_29 : decode cX2_coveredBits 29 = .ok (.ifCond .ne 5, 3) := by decide +kernel
theorem dX2_coveredBits_32 : decode cX2_coveredBits 32 = .ok (.iconst 0, 1) := by decide +kernel
theorem dX2_coveredBits_33 : decode cX2_coveredBits 33 = .ok (.ireturn, 1) := by decide +kernel
theorem dX2_coveredBits_34 : decode cX2_coveredBits 34 = .ok (.iconst 0, 1) := by decide +kernel
theorem dX2_coveredBits_35 : decode cX2_coveredBits 35 = .ok (.istore_n 3, 1) := by decide +kernel
theorem dX2_coveredBits_36 : decode cX2_coveredBits 36 = .ok (.aload_n 0, 1) := by decide +kernel
theorem dX2_coveredBits_37 : decode cX2_coveredBits 37 = .ok (.iload_n 1, 1) := by decide +kernel
theorem dX2_coveredBits_38 : decode cX2_coveredBits 38 = .ok (.invokevirtual 233, 3) := by decide +kernel
theorem dX2_coveredBits_41 : decode cX2_coveredBits 41 = .ok (.bipush 16, 2) := by decide +kernel
theorem dX2_coveredBits_43 : decode cX2_coveredBits 43 = .ok (.idiv, 1) := by decide +kernel
theorem dX2_coveredBits_44 : decode cX2_coveredBits 44 = .ok (.istore 4, 2) := by decide +kernel
theorem dX2_coveredBits_46 : decode cX2_coveredBits 46 = .ok (.aload_n 0, 1) := by decide +kernel
theorem dX2_coveredBits_47 : decode cX2_coveredBits 47 = .ok (.iload_n 1, 1) := by decide +kernel
theorem dX2_coveredBits_48 : decode cX2_coveredBits 48 = .ok (.invokevirtual 236, 3) := by decide +kernel
theorem dX2_coveredBits_51 : decode cX2_coveredBits 51 = .ok (.bipush 16, 2) := by decide +kernel
theorem dX2_coveredBits_53 : decode cX2_coveredBits 53 = .ok (.idiv, 1) := by decide +kernel
theorem dX2_coveredBits_54 : decode cX2_coveredBits 54 = .ok (.istore 5, 2) := by decide +kernel
theorem dX2_coveredBits_56 : decode cX2_coveredBits 56 = .ok (.iload 5, 2) := by decide +kernel
theorem dX2_coveredBits_58 : decode cX2_coveredBits 58 = .ok (.iload 4, 2) := by decide +kernel
theorem dX2_coveredBits_60 : decode cX2_coveredBits 60 = .ok (.if_icmp .gt 33, 3) := by decide +kernel
theorem dX2_coveredBits_63 : decode cX2_coveredBits 63 = .ok (.aload_n 0, 1) := by decide +kernel
theorem dX2_coveredBits_64 : decode cX2_coveredBits 64 = .ok (.iload_n 1, 1) := by decide +kernel
theorem dX2_coveredBits_65 : decode cX2_coveredBits 65 = .ok (.iload 5, 2) := by decide +kernel
theorem dX2_coveredBits_67 : decode cX2_coveredBits 67 = .ok (.invokestatic 201, 3) := by decide +kernel
theorem dX2_coveredBits_70 : decode cX2_coveredBits 70 = .ok (.iload_n 2, 1) := by decide +kernel
theorem dX2_coveredBits_71 : decode cX2_coveredBits 71 = .ok (.invokestatic 201, 3) := by decide +kernel
theorem dX2_coveredBits_74 : decode cX2_coveredBits 74 = .ok (.invokevirtual 204, 3) := by decide +kernel
theorem dX2_coveredBits_77 : decode cX2_coveredBits 77 = .ok (.ifCond .eq 10, 3) := by decide +kernel
theorem dX2_coveredBits_80 : decode cX2_coveredBits 80 = .ok (.iload_n 3, 1) := by decide +kernel
theorem dX2_coveredBits_81 : decode cX2_coveredBits 81 = .ok (.iconst 1, 1) := by decide +kernel
theorem dX2_coveredBits_82 : decode cX2_coveredBits 82 = .ok (.iload 5, 2) := by decide +kernel
theorem dX2_coveredBits_84 : decode cX2_coveredBits 84 = .ok (.ishl, 1) := by decide +kernel
theorem dX2_coveredBits_85 : decode cX2_coveredBits 85 = .ok (.ior, 1) := by decide +kernel
theorem dX2_coveredBits_86 : decode cX2_coveredBits 86 = .ok (.istore_n 3, 1) := by decide +kernel
theorem dX2_coveredBits_87 : decode cX2_coveredBits 87 = .ok (.iinc 5 1, 3) := by decide +kernel
theorem dX2_coveredBits_90 : decode cX2_coveredBits 90 = .ok (.goto (-34), 3) := by decide +kernel
theorem dX2_coveredBits_93 : decode cX2_coveredBits 93 = .ok (.iload_n 3, 1) := by decide +kernel
theorem dX2_coveredBits_94 : decode cX2_coveredBits 94 = .ok (.ireturn, 1) := by decide +kernel
set_option maxRecDepth 20000 in
theorem ggX2_sumOfTurns_X1_thereCount : GoodIn wsX2_sumOfTurns wsX1_thereCount := goodIn_r _ [10, 11, 45, 46, 47, 48] (by decide +kernel) (by decide +kernel)
set_option maxRecDepth 20000 in
theorem gX2_sumOfTurns_X1_thereCount : GoodIn wsX2_sumOfTurns (wsV RX2 127 RX1 yX1_thereCount wsX1_thereCount) := goodIn_app (goodIn_of _ (by decide +kernel)) ggX2_sumOfTurns_X1_thereCount
set_option maxRecDepth 20000 in
theorem ggX2_sumOfTurns_X1_numberAt : GoodIn wsX2_sumOfTurns wsX1_numberAt := goodIn_r _ [15, 16, 45, 46, 47, 48] (by decide +kernel) (by decide +kernel)
set_option maxRecDepth 20000 in
theorem gX2_sumOfTurns_X1_numberAt : GoodIn wsX2_sumOfTurns (wsV RX2 131 RX1 yX1_numberAt wsX1_numberAt) := goodIn_app (goodIn_of _ (by decide +kernel)) ggX2_sumOfTurns_X1_numberAt
set_option maxRecDepth 20000 in
theorem ggX2_sumOfTurns_X2_turnOf : GoodIn wsX2_sumOfTurns wsX2_turnOf := goodIn_r _ [21, 22, 1, 23, 24, 25, 9, 26, 27, 28, 29, 30, 31, 32, 33, 34, 35, 36, 37, 38, 39, 40, 41, 42, 43, 44, 45, 46, 47, 48, 49, 50, 51] (by decide +kernel) (by decide +kernel)
set_option maxRecDepth 20000 in
theorem gX2_sumOfTurns_X2_turnOf : GoodIn wsX2_sumOfTurns (wsV RX2 192 RX2 yX2_turnOf wsX2_turnOf) := goodIn_app (goodIn_of _ (by decide +kernel)) ggX2_sumOfTurns_X2_turnOf
theorem dX2_sumOfTurns_0 : decode cX2_sumOfTurns 0 = .ok (.lconst 0, 1) := by decide +kernel
theorem dX2_sumOfTurns_1 : decode cX2_sumOfTurns 1 = .ok (.lstore_n 1, 1) := by decide +kernel
theorem dX2_sumOfTurns_2 : decode cX2_sumOfTurns 2 = .ok (.iconst 0, 1) := by decide +kernel
theorem dX2_sumOfTurns_3 : decode cX2_sumOfTurns 3 = .ok (.istore_n 3, 1) := by decide +kernel
theorem dX2_sumOfTurns_4 : decode cX2_sumOfTurns 4 = .ok (.iload_n 3, 1) := by decide +kernel
theorem dX2_sumOfTurns_5 : decode cX2_sumOfTurns 5 = .ok (.aload_n 0, 1) := by decide +kernel
theorem dX2_sumOfTurns_6 : decode cX2_sumOfTurns 6 = .ok (.getfield 19, 3) := by decide +kernel
theorem dX2_sumOfTurns_9 : decode cX2_sumOfTurns 9 = .ok (.invokevirtual 127, 3) := by decide +kernel
theorem dX2_sumOfTurns_12 : decode cX2_sumOfTurns 12 = .ok (.if_icmp .ge 29, 3) := by decide +kernel
theorem dX2_sumOfTurns_15 : decode cX2_sumOfTurns 15 = .ok (.lload_n 1, 1) := by decide +kernel
theorem dX2_sumOfTurns_16 : decode cX2_sumOfTurns 16 = .ok (.iconst 0, 1) := by decide +kernel
theorem dX2_sumOfTurns_17 : decode cX2_sumOfTurns 17 = .ok (.aload_n 0, 1) := by decide +kernel
theorem dX2_sumOfTurns_18 : decode cX2_sumOfTurns 18 = .ok (.aload_n 0, 1) := by decide +kernel
theorem dX2_sumOfTurns_19 : decode cX2_sumOfTurns 19 = .ok (.getfield 19, 3) := by decide +kernel
theorem dX2_sumOfTurns_22 : decode cX2_sumOfTurns 22 = .ok (.iload_n 3, 1) := by decide +kernel
theorem dX2_sumOfTurns_23 : decode cX2_sumOfTurns 23 = .ok (.invokevirtual 131, 3) := by decide +kernel
theorem dX2_sumOfTurns_26 : decode cX2_sumOfTurns 26 = .ok (.invokevirtual 192, 3) := by decide +kernel
theorem dX2_sumOfTurns_29 : decode cX2_sumOfTurns 29 = .ok (.invokestatic 239, 3) := by decide +kernel
theorem dX2_sumOfTurns_32 : decode cX2_sumOfTurns 32 = .ok (.i2l, 1) := by decide +kernel
theorem dX2_sumOfTurns_33 : decode cX2_sumOfTurns 33 = .ok (.ladd, 1) := by decide +kernel
theorem dX2_sumOfTurns_34 : decode cX2_sumOfTurns 34 = .ok (.lstore_n 1, 1) := by decide +kernel
theorem dX2_sumOfTurns_35 : decode cX2_sumOfTurns 35 = .ok (.iinc 3 1, 3) := by decide +kernel
theorem dX2_sumOfTurns_38 : decode cX2_sumOfTurns 38 = .ok (.goto (-34), 3) := by decide +kernel
theorem dX2_sumOfTurns_41 : decode cX2_sumOfTurns 41 = .ok (.lload_n 1, 1) := by decide +kernel
theorem dX2_sumOfTurns_42 : decode cX2_sumOfTurns 42 = .ok (.lreturn, 1) := by decide +kernel
set_option maxRecDepth 20000 in
theorem ggX2_leftmost_X2_cornerX : GoodIn wsX2_leftmost wsX2_cornerX := goodIn_r _ [9, 10, 11, 12, 13, 14, 15, 16, 17, 18, 19, 20, 21, 22, 23, 24, 25, 26, 27, 28, 29, 30, 31, 32, 33, 34, 35, 36] (by decide +kernel) (by decide +kernel)
set_option maxRecDepth 20000 in
theorem gX2_leftmost_X2_cornerX : GoodIn wsX2_leftmost (wsV RX2 244 RX2 yX2_cornerX wsX2_cornerX) := goodIn_app (goodIn_of _ (by decide +kernel)) ggX2_leftmost_X2_cornerX
theorem dX2_leftmost_0 : decode cX2_leftmost 0 = .ok (.aload_n 0, 1) := by decide +kernel
theorem dX2_leftmost_1 : decode cX2_leftmost 1 = .ok (.iload_n 1, 1) := by decide +kernel
theorem dX2_leftmost_2 : decode cX2_leftmost 2 = .ok (.iconst 0, 1) := by decide +kernel
theorem dX2_leftmost_3 : decode cX2_leftmost 3 = .ok (.invokevirtual 244, 3) := by decide +kernel
theorem dX2_leftmost_6 : decode cX2_leftmost 6 = .ok (.aload_n 0, 1) := by decide +kernel
theorem dX2_leftmost_7 : decode cX2_leftmost 7 = .ok (.iload_n 1, 1) := by decide +kernel
theorem dX2_leftmost_8 : decode cX2_leftmost 8 = .ok (.iconst 1, 1) := by decide +kernel
theorem dX2_leftmost_9 : decode cX2_leftmost 9 = .ok (.invokevirtual 244, 3) := by decide +kernel
theorem dX2_leftmost_12 : decode cX2_leftmost 12 = .ok (.aload_n 0, 1) := by decide +kernel
theorem dX2_leftmost_13 : decode cX2_leftmost 13 = .ok (.iload_n 1, 1) := by decide +kernel
theorem dX2_leftmost_14 : decode cX2_leftmost 14 = .ok (.iconst 2, 1) := by decide +kernel
theorem dX2_leftmost_15 : decode cX2_leftmost 15 = .ok (.invokevirtual 244, 3) := by decide +kernel
theorem dX2_leftmost_18 : decode cX2_leftmost 18 = .ok (.invokestatic 247, 3) := by decide +kernel
theorem dX2_leftmost_21 : decode cX2_leftmost 21 = .ok (.invokestatic 247, 3) := by decide +kernel
theorem dX2_leftmost_24 : decode cX2_leftmost 24 = .ok (.ireturn, 1) := by decide +kernel
set_option maxRecDepth 20000 in
theorem ggX2_rightmost_X2_cornerX : GoodIn wsX2_rightmost wsX2_cornerX := goodIn_r _ [9, 10, 11, 12, 13, 14, 15, 16, 17, 18, 19, 20, 21, 22, 23, 24, 25, 26, 27, 28, 29, 30, 31, 32, 33, 34, 35, 36] (by decide +kernel) (by decide +kernel)
set_option maxRecDepth 20000 in
theorem gX2_rightmost_X2_cornerX : GoodIn wsX2_rightmost (wsV RX2 244 RX2 yX2_cornerX wsX2_cornerX) := goodIn_app (goodIn_of _ (by decide +kernel)) ggX2_rightmost_X2_cornerX
theorem dX2_rightmost_0 : decode cX2_rightmost 0 = .ok (.aload_n 0, 1) := by decide +kernel
theorem dX2_rightmost_1 : decode cX2_rightmost 1 = .ok (.iload_n 1, 1) := by decide +kernel
theorem dX2_rightmost_2 : decode cX2_rightmost 2 = .ok (.iconst 0, 1) := by decide +kernel
theorem dX2_rightmost_3 : decode cX2_rightmost 3 = .ok (.invokevirtual 244, 3) := by decide +kernel
theorem dX2_rightmost_6 : decode cX2_rightmost 6 = .ok (.aload_n 0, 1) := by decide +kernel
theorem dX2_rightmost_7 : decode cX2_rightmost 7 = .ok (.iload_n 1, 1) := by decide +kernel
theorem dX2_rightmost_8 : decode cX2_rightmost 8 = .ok (.iconst 1, 1) := by decide +kernel
theorem dX2_rightmost_9 : decode cX2_rightmost 9 = .ok (.invokevirtual 244, 3) := by decide +kernel
theorem dX2_rightmost_12 : decode cX2_rightmost 12 = .ok (.aload_n 0, 1) := by decide +kernel
theorem dX2_rightmost_13 : decode cX2_rightmost 13 = .ok (.iload_n 1, 1) := by decide +kernel
theorem dX2_rightmost_14 : decode cX2_rightmost 14 = .ok (.iconst 2, 1) := by decide +kernel
theorem dX2_rightmost_15 : decode cX2_rightmost 15 = .ok (.invokevirtual 244, 3) := by decide +kernel
theorem dX2_rightmost_18 : decode cX2_rightmost 18 = .ok (.invokestatic 239, 3) := by decide +kernel
theorem dX2_rightmost_21 : decode cX2_rightmost 21 = .ok (.invokestatic 239, 3) := by decide +kernel
theorem dX2_rightmost_24 : decode cX2_rightmost 24 = .ok (.ireturn, 1) := by decide +kernel
set_option maxRecDepth 20000 in
theorem ggX2_lowest_X2_cornerY : GoodIn wsX2_lowest wsX2_cornerY := goodIn_r _ [9, 10, 11, 12, 13, 14, 15, 16, 17, 18, 19, 20, 21, 22, 23, 24, 25, 26, 27, 28, 29, 30, 31, 32, 33, 34, 35, 36] (by decide +kernel) (by decide +kernel)
set_option maxRecDepth 20000 in
theorem gX2_lowest_X2_cornerY : GoodIn wsX2_lowest (wsV RX2 250 RX2 yX2_cornerY wsX2_cornerY) := goodIn_app (goodIn_of _ (by decide +kernel)) ggX2_lowest_X2_cornerY
theorem dX2_lowest_0 : decode cX2_lowest 0 = .ok (.aload_n 0, 1) := by decide +kernel
theorem dX2_lowest_1 : decode cX2_lowest 1 = .ok (.iload_n 1, 1) := by decide +kernel
theorem dX2_lowest_2 : decode cX2_lowest 2 = .ok (.iconst 0, 1) := by decide +kernel
theorem dX2_lowest_3 : decode cX2_lowest 3 = .ok (.invokevirtual 250, 3) := by decide +kernel
theorem dX2_lowest_6 : decode cX2_lowest 6 = .ok (.aload_n 0, 1) := by decide +kernel
theorem dX2_lowest_7 : decode cX2_lowest 7 = .ok (.iload_n 1, 1) := by decide +kernel
theorem dX2_lowest_8 : decode cX2_lowest 8 = .ok (.iconst 1, 1) := by decide +kernel
theorem dX2_lowest_9 : decode cX2_lowest 9 = .ok (.invokevirtual 250, 3) := by decide +kernel
theorem dX2_lowest_12 : decode cX2_lowest 12 = .ok (.aload_n 0, 1) := by decide +kernel
theorem dX2_lowest_13 : decode cX2_lowest 13 = .ok (.iload_n 1, 1) := by decide +kernel
theorem dX2_lowest_14 : decode cX2_lowest 14 = .ok (.iconst 2, 1) := by decide +kernel
theorem dX2_lowest_15 : decode cX2_lowest 15 = .ok (.invokevirtual 250, 3) := by decide +kernel
theorem dX2_lowest_18 : decode cX2_lowest 18 = .ok (.invokestatic 247, 3) := by decide +kernel
theorem dX2_lowest_21 : decode cX2_lowest 21 = .ok (.invokestatic 247, 3) := by decide +kernel
theorem dX2_lowest_24 : decode cX2_lowest 24 = .ok (.ireturn, 1) := by decide +kernel
set_option maxRecDepth 20000 in
theorem ggX2_highest_X2_cornerY : GoodIn wsX2_highest wsX2_cornerY := goodIn_r _ [9, 10, 11, 12, 13, 14, 15, 16, 17, 18, 19, 20, 21, 22, 23, 24, 25, 26, 27, 28, 29, 30, 31, 32, 33, 34, 35, 36] (by decide +kernel) (by decide +kernel)
set_option maxRecDepth 20000 in
theorem gX2_highest_X2_cornerY : GoodIn wsX2_highest (wsV RX2 250 RX2 yX2_cornerY wsX2_cornerY) := goodIn_app (goodIn_of _ (by decide +kernel)) ggX2_highest_X2_cornerY
theorem dX2_highest_0 : decode cX2_highest 0 = .ok (.aload_n 0, 1) := by decide +kernel
theorem dX2_highest_1 : decode cX2_highest 1 = .ok (.iload_n 1, 1) := by decide +kernel
theorem dX2_highest_2 : decode cX2_highest 2 = .ok (.iconst 0, 1) := by decide +kernel
theorem dX2_highest_3 : decode cX2_highest 3 = .ok (.invokevirtual 250, 3) := by decide +kernel
theorem dX2_highest_6 : decode cX2_highest 6 = .ok (.aload_n 0, 1) := by decide +kernel
theorem dX2_highest_7 : decode cX2_highest 7 = .ok (.iload_n 1, 1) := by decide +kernel
theorem dX2_highest_8 : decode cX2_highest 8 = .ok (.iconst 1, 1) := by decide +kernel
theorem dX2_highest_9 : decode cX2_highest 9 = .ok (.invokevirtual 250, 3) := by decide +kernel
theorem dX2_highest_12 : decode cX2_highest 12 = .ok (.aload_n 0, 1) := by decide +kernel
theorem dX2_highest_13 : decode cX2_highest 13 = .ok (.iload_n 1, 1) := by decide +kernel
theorem dX2_highest_14 : decode cX2_highest 14 = .ok (.iconst 2, 1) := by decide +kernel
theorem dX2_highest_15 : decode cX2_highest 15 = .ok (.invokevirtual 250, 3) := by decide +kernel
theorem dX2_highest_18 : decode cX2_highest 18 = .ok (.invokestatic 239, 3) := by decide +kernel
theorem dX2_highest_21 : decode cX2_highest 21 = .ok (.invokestatic 239, 3) := by decide +kernel
theorem dX2_highest_24 : decode cX2_highest 24 = .ok (.ireturn, 1) := by decide +kernel
set_option maxRecDepth 20000 in
theorem ggX2_cornerX_X1_cornerOf : GoodIn wsX2_cornerX wsX1_cornerOf := goodIn_r _ [7, 8, 21, 22, 23, 24] (by decide +kernel) (by decide +kernel)
set_option maxRecDepth 20000 in
theorem gX2_cornerX_X1_cornerOf : GoodIn wsX2_cornerX (wsV RX2 107 RX1 yX1_cornerOf wsX1_cornerOf) := goodIn_app (goodIn_of _ (by decide +kernel)) ggX2_cornerX_X1_cornerOf
set_option maxRecDepth 20000 in
theorem ggX2_cornerX_X0_x : GoodIn wsX2_cornerX wsX0_x := goodIn_r _ [13, 14, 25, 26, 27] (by decide +kernel) (by decide +kernel)
set_option maxRecDepth 20000 in
theorem gX2_cornerX_X0_x : GoodIn wsX2_cornerX (wsV RX2 213 RX0 yX0_x wsX0_x) := goodIn_app (goodIn_of _ (by decide +kernel)) ggX2_cornerX_X0_x
theorem dX2_cornerX_0 : decode cX2_cornerX 0 = .ok (.aload_n 0, 1) := by decide +kernel
theorem dX2_cornerX_1 : decode cX2_cornerX 1 = .ok (.getfield 10, 3) := by decide +kernel
theorem dX2_cornerX_4 : decode cX2_cornerX 4 = .ok (.aload_n 0, 1) := by decide +kernel
theorem dX2_cornerX_5 : decode cX2_cornerX 5 = .ok (.getfield 19, 3) := by decide +kernel
theorem dX2_cornerX_8 : decode cX2_cornerX 8 = .ok (.iload_n 1, 1) := by decide +kernel
theorem dX2_cornerX_9 : decode cX2_cornerX 9 = .ok (.iload_n 2, 1) := by decide +kernel
theorem dX2_cornerX_10 : decode cX2_cornerX 10 = .ok (.invokevirtual 107, 3) := by decide +kernel
theorem dX2_cornerX_13 : decode cX2_cornerX 13 = .ok (.invokevirtual 213, 3) := by decide +kernel
theorem dX2_cornerX_16 : decode cX2_cornerX 16 = .ok (.ireturn, 1) := by decide +kernel
set_option maxRecDepth 20000 in
theorem ggX2_cornerY_X1_cornerOf : GoodIn wsX2_cornerY wsX1_cornerOf := goodIn_r _ [7, 8, 21, 22, 23, 24] (by decide +kernel) (by decide +kernel)
set_option maxRecDepth 20000 in
theorem gX2_cornerY_X1_cornerOf : GoodIn wsX2_cornerY (wsV RX2 107 RX1 yX1_cornerOf wsX1_cornerOf) := goodIn_app (goodIn_of _ (by decide +kernel)) ggX2_cornerY_X1_cornerOf
set_option maxRecDepth 20000 in
theorem ggX2_cornerY_X0_y : GoodIn wsX2_cornerY wsX0_y := goodIn_r _ [13, 14, 25, 26, 27] (by decide +kernel) (by decide +kernel)
set_option maxRecDepth 20000 in
theorem gX2_cornerY_X0_y : GoodIn wsX2_cornerY (wsV RX2 210 RX0 yX0_y wsX0_y) := goodIn_app (goodIn_of _ (by decide +kernel)) ggX2_cornerY_X0_y
theorem dX2_cornerY_0 : decode cX2_cornerY 0 = .ok (.aload_n 0, 1) := by decide +kernel
theorem dX2_cornerY_1 : decode cX2_cornerY 1 = .ok (.getfield 10, 3) := by decide +kernel
theorem dX2_cornerY_4 : decode cX2_cornerY 4 = .ok (.aload_n 0, 1) := by decide +kernel
theorem dX2_cornerY_5 : decode cX2_cornerY 5 = .ok (.getfield 19, 3) := by decide +kernel
theorem dX2_cornerY_8 : decode cX2_cornerY 8 = .ok (.iload_n 1, 1) := by decide +kernel
theorem dX2_cornerY_9 : decode cX2_cornerY 9 = .ok (.iload_n 2, 1) := by decide +kernel
theorem dX2_cornerY_10 : decode cX2_cornerY 10 = .ok (.invokevirtual 107, 3) := by decide +kernel
theorem dX2_cornerY_13 : decode cX2_cornerY 13 = .ok (.invokevirtual 210, 3) := by decide +kernel
theorem dX2_cornerY_16 : decode cX2_cornerY 16 = .ok (.ireturn, 1) := by decide +kernel
theorem dX2_rememberCulprits_0 : decode cX2_rememberCulprits 0 = .ok (.aload_n 0, 1) := by decide +kernel
theorem dX2_rememberCulprits_1 : decode cX2_rememberCulprits 1 = .ok (.iload_n 1, 1) := by decide +kernel
theorem dX2_rememberCulprits_2 : decode cX2_rememberCulprits 2 = .ok (.putfield 31, 3) := by decide +kernel
theorem dX2_rememberCulprits_5 : decode cX2_rememberCulprits 5 = .ok (.aload_n 0, 1) := by decide +kernel
theorem dX2_rememberCulprits_6 : decode cX2_rememberCulprits 6 = .ok (.iload_n 2, 1) := by decide +kernel
theorem dX2_rememberCulprits_7 : decode cX2_rememberCulprits 7 = .ok (.putfield 35, 3) := by decide +kernel
theorem dX2_rememberCulprits_10 : decode cX2_rememberCulprits 10 = .ok (.return_, 1) := by decide +kernel
set_option maxRecDepth 20000 in
theorem ggX2_firstUntidyBefore_X1_numberAt : GoodIn wsX2_firstUntidyBefore wsX1_numberAt := goodIn_r _ [6, 7, 111, 112, 113, 114] (by decide +kernel) (by decide +kernel)
set_option maxRecDepth 20000 in
theorem gX2_firstUntidyBefore_X1_numberAt : GoodIn wsX2_firstUntidyBefore (wsV RX2 131 RX1 yX1_numberAt wsX1_numberAt) := goodIn_app (goodIn_of _ (by decide +kernel)) ggX2_firstUntidyBefore_X1_numberAt
set_option maxRecDepth 20000 in
theorem ggX2_firstUntidyBefore_X2_areTidy : GoodIn wsX2_firstUntidyBefore wsX2_areTidy := goodIn_r _ [12, 13, 14, 15, 11, 16, 17, 18, 19, 20, 21, 22, 23, 24, 25, 26, 27, 28, 29, 1, 30, 31, 32, 5, 33, 34, 35, 36, 37, 38, 39, 40, 41, 42, 43, 44, 45, 46, 47, 48, 49, 50, 51, 52, 53, 54, 55, 56, 57, 58, 59, 60, 61, 62, 63, 64, 65, 66, 67, 68, 69, 70, 71, 72, 73, 74, 75, 76, 77, 78, 79, 80, 81, 82, 83, 84, 85, 86, 87, 88, 89, 90, 91, 92, 93, 94, 95, 96, 97, 98, 99, 100, 101, 102, 103, 104, 105, 106, 107, 108, 109, 110, 111, 112, 113, 114, 115, 116, 117] (by decide +kernel) (by decide +kernel)
set_option maxRecDepth 20000 in
theorem gX2_firstUntidyBefore_X2_areTidy : GoodIn wsX2_firstUntidyBefore (wsV RX2 253 RX2 yX2_areTidy wsX2_areTidy) := goodIn_app (goodIn_of _ (by decide +kernel)) ggX2_firstUntidyBefore_X2_areTidy
theorem dX2_firstUntidyBefore_0 : decode cX2_firstUntidyBefore 0 = .ok (.aload_n 0, 1) := by decide +kernel
theorem dX2_firstUntidyBefore_1 : decode cX2_firstUntidyBefore 1 = .ok (.getfield 19, 3) := by decide +kernel
theorem dX2_firstUntidyBefore_4 : decode cX2_firstUntidyBefore 4 = .ok (.iload_n 1, 1) := by decide +kernel
theorem dX2_firstUntidyBefore_5 : decode cX2_firstUntidyBefore 5 = .ok (.invokevirtual 131, 3) := by decide +kernel
theorem dX2_firstUntidyBefore_8 : decode cX2_firstUntidyBefore 8 = .ok (.istore_n 2, 1) := by decide +kernel
theorem dX2_firstUntidyBefore_9 : decode cX2_firstUntidyBefore 9 = .ok (.iconst 0, 1) := by decide +kernel
theorem dX2_firstUntidyBefore_10 : decode cX2_firstUntidyBefore 10 = .ok (.istore_n 3, 1) := by decide +kernel
theorem dX2_firstUntidyBefore_11 : decode cX2_firstUntidyBefore 11 = .ok (.iload_n 3, 1) := by decide +kernel
theorem dX2_firstUntidyBefore_12 : decode cX2_firstUntidyBefore 12 = .ok (.iload_n 1, 1) := by decide +kernel
theorem dX2_firstUntidyBefore_13 : decode cX2_firstUntidyBefore 13 = .ok (.if_icmp .ge 32, 3) := by decide +kernel
theorem dX2_firstUntidyBefore_16 : decode cX2_firstUntidyBefore 16 = .ok (.aload_n 0, 1) := by decide +kernel
theorem dX2_firstUntidyBefore_17 : decode cX2_firstUntidyBefore 17 = .ok (.getfield 19, 3) := by decide +kernel
theorem dX2_firstUntidyBefore_20 : decode cX2_firstUntidyBefore 20 = .ok (.iload_n 3, 1) := by decide +kernel
theorem dX2_firstUntidyBefore_21 : decode cX2_firstUntidyBefore 21 = .ok (.invokevirtual 131, 3) := by decide +kernel
theorem dX2_firstUntidyBefore_24 : decode cX2_firstUntidyBefore 24 = .ok (.istore 4, 2) := by decide +kernel
theorem dX2_firstUntidyBefore_26 : decode cX2_firstUntidyBefore 26 = .ok (.aload_n 0, 1) := by decide +kernel
theorem dX2_firstUntidyBefore_27 : decode cX2_firstUntidyBefore 27 = .ok (.iload_n 2, 1) := by decide +kernel
theorem dX2_firstUntidyBefore_28 : decode cX2_firstUntidyBefore 28 = .ok (.iload 4, 2) := by decide +kernel
theorem dX2_firstUntidyBefore_30 : decode cX2_firstUntidyBefore 30 = .ok (.invokevirtual 253, 3) := by decide +kernel
theorem dX2_firstUntidyBefore_33 : decode cX2_firstUntidyBefore 33 = .ok (.ifCond .ne 6, 3) := by decide +kernel
theorem dX2_firstUntidyBefore_36 : decode cX2_firstUntidyBefore 36 = .ok (.iload 4, 2) := by decide +kernel
theorem dX2_firstUntidyBefore_38 : decode cX2_firstUntidyBefore 38 = .ok (.ireturn, 1) := by decide +kernel
theorem dX2_firstUntidyBefore_39 : decode cX2_firstUntidyBefore 39 = .ok (.iinc 3 1, 3) := by decide +kernel
theorem dX2_firstUntidyBefore_42 : decode cX2_firstUntidyBefore 42 = .ok (.goto (-31), 3) := by decide +kernel
theorem dX2_firstUntidyBefore_45 : decode cX2_firstUntidyBefore 45 = .ok (.iconst (-1), 1) := by decide +kernel
theorem dX2_firstUntidyBefore_46 : decode cX2_firstUntidyBefore 46 = .ok (.ireturn, 1) := by decide +kernel
set_option maxRecDepth 20000 in
theorem ggX2_areTidy_X2_areFarApart : GoodIn wsX2_areTidy wsX2_areFarApart := goodIn_r _ [5, 6, 7, 8, 4, 9, 10, 11, 12, 13, 14, 15, 16, 17, 18, 19, 20, 21, 22, 23, 24, 25, 26, 27, 28, 29, 30, 31, 32, 33, 34, 35, 36, 37, 38, 39, 40, 41, 42, 43, 44, 45, 46, 47, 48, 49, 50, 51, 52, 53, 54, 55, 96, 97, 98, 99, 100, 101, 102, 103, 104, 105, 106, 107, 108] (by decide +kernel) (by decide +kernel)
set_option maxRecDepth 20000 in
theorem gX2_areTidy_X2_areFarApart : GoodIn wsX2_areTidy (wsV RX2 256 RX2 yX2_areFarApart wsX2_areFarApart) := goodIn_app (goodIn_of _ (by decide +kernel)) ggX2_areTidy_X2_areFarApart
set_option maxRecDepth 20000 in
theorem ggX2_areTidy_X2_haveSameCorners : GoodIn wsX2_areTidy wsX2_haveSameCorners := goodIn_r _ [59, 19, 20, 21, 22, 23, 24, 25, 60, 61, 62, 63, 96, 97, 98, 99, 100, 101, 102, 103, 104, 105] (by decide +kernel) (by decide +kernel)
set_option maxRecDepth 20000 in
theorem gX2_areTidy_X2_haveSameCorners : GoodIn wsX2_areTidy (wsV RX2 259 RX2 yX2_haveSameCorners wsX2_haveSameCorners) := goodIn_app (goodIn_of _ (by decide +kernel)) ggX2_areTidy_X2_haveSameCorners
set_option maxRecDepth 20000 in
theorem ggX2_areTidy_X2_reachesInto : GoodIn wsX2_areTidy wsX2_reachesInto := goodIn_r _ [67, 19, 18, 20, 21, 22, 23, 24, 25, 60, 61, 62, 63, 26, 27, 28, 29, 30, 31, 47, 48, 49, 50, 51, 68, 69, 70, 4, 71, 72, 73, 74, 75, 76, 77, 78, 79, 96, 97, 98, 99, 100, 101, 102, 103, 104, 105, 106, 107, 108] (by decide +kernel) (by decide +kernel)
set_option maxRecDepth 20000 in
theorem gX2_areTidy_X2_reachesInto : GoodIn wsX2_areTidy (wsV RX2 262 RX2 yX2_reachesInto wsX2_reachesInto) := goodIn_app (goodIn_of _ (by decide +kernel)) ggX2_areTidy_X2_reachesInto
set_option maxRecDepth 20000 in
theorem ggX2_areTidy_X2_crossesAnEdgeOf : GoodIn wsX2_areTidy wsX2_crossesAnEdgeOf := goodIn_r _ [83, 18, 19, 20, 21, 22, 23, 24, 25, 84, 85, 86, 29, 87, 88, 89, 90, 91, 31, 51, 92, 77, 78, 79, 93, 94, 95, 96, 97, 98, 99, 100, 101, 102, 103, 104, 105, 106, 107, 108] (by decide +kernel) (by decide +kernel)
set_option maxRecDepth 20000 in
theorem gX2_areTidy_X2_crossesAnEdgeOf : GoodIn wsX2_areTidy (wsV RX2 265 RX2 yX2_crossesAnEdgeOf wsX2_crossesAnEdgeOf) := goodIn_app (goodIn_of _ (by decide +kernel)) ggX2_areTidy_X2_crossesAnEdgeOf
theorem dX2_areTidy_0 : decode cX2_areTidy 0 = .ok (.aload_n 0, 1) := by decide +kernel
theorem dX2_areTidy_1 : decode cX2_areTidy 1 = .ok (.iload_n 1, 1) := by decide +kernel
theorem dX2_areTidy_2 : decode cX2_areTidy 2 = .ok (.iload_n 2, 1) := by decide +kernel
theorem dX2_areTidy_3 : decode cX2_areTidy 3 = .ok (.invokevirtual 256, 3) := by decide +kernel
theorem dX2_areTidy_6 : decode cX2_areTidy 6 = .ok (.ifCond .eq 5, 3) := by decide +kernel
theorem dX2_areTidy_9 : decode cX2_areTidy 9 = .ok (.iconst 1, 1) := by decide +kernel
theorem dX2_areTidy_10 : decode cX2_areTidy 10 = .ok (.ireturn, 1) := by decide +kernel
theorem dX2_areTidy_11 : decode cX2_areTidy 11 = .ok (.aload_n 0, 1) := by decide +kernel
theorem dX2_areTidy_12 : decode cX2_areTidy 12 = .ok (.iload_n 1, 1) := by decide +kernel
theorem dX2_areTidy_13 : decode cX2_areTidy 13 = .ok (.iload_n 2, 1) := by decide +kernel
theorem dX2_areTidy_14 : decode cX2_areTidy 14 = .ok (.invokevirtual 259, 3) := by decide +kernel
theorem dX2_areTidy_17 : decode cX2_areTidy 17 = .ok (.ifCond .ne 34, 3) := by decide +kernel
theorem dX2_areTidy_20 : decode cX2_areTidy 20 = .ok (.aload_n 0, 1) := by decide +kernel
theorem dX2_areTidy_21 : decode cX2_areTidy 21 = .ok (.iload_n 1, 1) := by decide +kernel
theorem dX2_areTidy_22 : decode cX2_areTidy 22 = .ok (.iload_n 2, 1) := by decide +kernel
theorem dX2_areTidy_23 : decode cX2_areTidy 23 = .ok (.invokevirtual 262, 3) := by decide +kernel
theorem dX2_areTidy_26 : decode cX2_areTidy 26 = .ok (.ifCond .ne 25, 3) := by decide +kernel
theorem dX2_areTidy_29 : decode cX2_areTidy 29 = .ok (.aload_n 0, 1) := by decide +kernel
theorem dX2_areTidy_30 : decode cX2_areTidy 30 = .ok (.iload_n 2, 1) := by decide +kernel
theorem dX2_areTidy_31 : decode cX2_areTidy 31 = .ok (.iload_n 1, 1) := by decide +kernel
theorem dX2_areTidy_32 : decode cX2_areTidy 32 = .ok (.invokevirtual 262, 3) := by decide +kernel
theorem dX2_areTidy_35 : decode cX2_areTidy 35 = .ok (.ifCond .ne 16, 3) := by decide +kernel
theorem dX2_areTidy_38 : decode cX2_areTidy 38 = .ok (.aload_n 0, 1) := by decide +kernel
theorem dX2_areTidy_39 : decode cX2_areTidy 39 = .ok (.iload_n 1, 1) := by decide +kernel
theorem dX2_areTidy_40 : decode cX2_areTidy 40 = .ok (.iload_n 2, 1) := by decide +kernel
theorem dX2_areTidy_41 : decode cX2_areTidy 41 = .ok (.invokevirtual 265, 3) := by decide +kernel
theorem dX2_areTidy_44 : decode cX2_areTidy 44 = .ok (.ifCond .ne 7, 3) := by decide +kernel
theorem dX2_areTidy_47 : decode cX2_areTidy 47 = .ok (.iconst 1, 1) := by decide +kernel
theorem dX2_areTidy_48 : decode cX2_areTidy 48 = .ok (.goto 4, 3) := by decide +kernel
theorem dX2_areTidy_51 : decode cX2_areTidy 51 = .ok (.iconst 0, 1) := by decide +kernel
theorem dX2_areTidy_52 : decode cX2_areTidy 52 = .ok (.ireturn, 1) := by decide +kernel
set_option maxRecDepth 20000 in
theorem ggX2_areFarApart_X2_rightmost : GoodIn wsX2_areFarApart wsX2_rightmost := goodIn_r _ [5, 6, 7, 8, 9, 10, 11, 12, 4, 13, 14, 15, 16, 17, 18, 19, 20, 21, 22, 23, 24, 25, 26, 27, 52, 53, 54, 55, 56, 57, 58, 59, 60, 61, 62, 63, 64] (by decide +kernel) (by decide +kernel)
set_option maxRecDepth 20000 in
theorem gX2_areFarApart_X2_rightmost : GoodIn wsX2_areFarApart (wsV RX2 233 RX2 yX2_rightmost wsX2_rightmost) := goodIn_app (goodIn_of _ (by decide +kernel)) ggX2_areFarApart_X2_rightmost
set_option maxRecDepth 20000 in
theorem ggX2_areFarApart_X2_leftmost : GoodIn wsX2_areFarApart wsX2_leftmost := goodIn_r _ [31, 32, 33, 8, 34, 10, 11, 12, 4, 13, 14, 15, 16, 17, 18, 19, 20, 21, 22, 23, 24, 25, 26, 27, 52, 53, 54, 55, 56, 57, 58, 59, 60, 61, 62, 63, 64] (by decide +kernel) (by decide +kernel)
set_option maxRecDepth 20000 in
theorem gX2_areFarApart_X2_leftmost : GoodIn wsX2_areFarApart (wsV RX2 236 RX2 yX2_leftmost wsX2_leftmost) := goodIn_app (goodIn_of _ (by decide +kernel)) ggX2_areFarApart_X2_leftmost
set_option maxRecDepth 20000 in
theorem ggX2_areFarApart_X2_highest : GoodIn wsX2_areFarApart wsX2_highest := goodIn_r _ [38, 6, 7, 8, 9, 39, 40, 41, 4, 42, 14, 15, 16, 17, 18, 19, 20, 21, 43, 44, 45, 25, 46, 47, 52, 53, 54, 55, 56, 57, 58, 59, 60, 61, 62, 63, 64] (by decide +kernel) (by decide +kernel)
set_option maxRecDepth 20000 in
theorem gX2_areFarApart_X2_highest : GoodIn wsX2_areFarApart (wsV RX2 230 RX2 yX2_highest wsX2_highest) := goodIn_app (goodIn_of _ (by decide +kernel)) ggX2_areFarApart_X2_highest
set_option maxRecDepth 20000 in
theorem ggX2_areFarApart_X2_lowest : GoodIn wsX2_areFarApart wsX2_lowest := goodIn_r _ [51, 32, 33, 8, 34, 39, 40, 41, 4, 42, 14, 15, 16, 17, 18, 19, 20, 21, 43, 44, 45, 25, 46, 47, 52, 53, 54, 55, 56, 57, 58, 59, 60, 61, 62, 63, 64] (by decide +kernel) (by decide +kernel)
set_option maxRecDepth 20000 in
theorem gX2_areFarApart_X2_lowest : GoodIn wsX2_areFarApart (wsV RX2 227 RX2 yX2_lowest wsX2_lowest) := goodIn_app (goodIn_of _ (by decide +kernel)) ggX2_areFarApart_X2_lowest
theorem dX2_areFarApart_0 : decode cX2_areFarApart 0 = .ok (.aload_n 0, 1) := by decide +kernel
theorem dX2_areFarApart_1 : decode cX2_areFarApart 1 = .ok (.iload_n 1, 1) := by decide +kernel
theorem dX2_areFarApart_2 : decode cX2_areFarApart 2 = .ok (.invokevirtual 233, 3) := by decide +kernel
theorem dX2_areFarApart_5 : decode cX2_areFarApart 5 = .ok (.aload_n 0, 1) := by decide +kernel
theorem dX2_areFarApart_6 : decode cX2_areFarApart 6 = .ok (.iload_n 2, 1) := by decide +kernel
theorem dX2_areFarApart_7 : decode cX2_areFarApart 7 = .ok (.invokevirtual 236, 3) := by decide +kernel
theorem dX2_areFarApart_10 : decode cX2_areFarApart 10 = .ok (.if_icmp .lt 42, 3) := by decide +kernel
theorem dX2_areFarApart_13 : decode cX2_areFarApart 13 = .ok (.aload_n 0, 1) := by decide +kernel
theorem dX2_areFarApart_14 : decode cX2_areFarApart 14 = .ok (.iload_n 2, 1) := by decide +kernel
theorem dX2_areFarApart_15 : decode cX2_areFarApart 15 = .ok (.invokevirtual 233, 3) := by decide +kernel
theorem dX2_areFarApart_18 : decode cX2_areFarApart 18 = .ok (.aload_n 0, 1) := by decide +kernel
theorem dX2_areFarApart_19 : decode cX2_areFarApart 19 = .ok (.iload_n 1, 1) := by decide +kernel
theorem dX2_areFarApart_20 : decode cX2_areFarApart 20 = .ok (.invokevirtual 236, 3) := by decide +kernel
theorem dX2_areFarApart_23 : decode cX2_areFarApart 23 = .ok (.if_icmp .lt 29, 3) := by decide +kernel
theorem dX2_areFarApart_26 : decode cX2_areFarApart 26 = .ok (.aload_n 0, 1) := by decide +kernel
theorem dX2_areFarApart_27 : decode cX2_areFarApart 27 = .ok (.iload_n 1, 1) := by decide +kernel
theorem dX2_areFarApart_28 : decode cX2_areFarApart 28 = .ok (.invokevirtual 230, 3) := by decide +kernel
theorem dX2_areFarApart_31 : decode cX2_areFarApart 31 = .ok (.aload_n 0, 1) := by decide +kernel
theorem dX2_areFarApart_32 : decode cX2_areFarApart 32 = .ok (.iload_n 2, 1) := by decide +kernel
theorem dX2_areFarApart_33 : decode cX2_areFarApart 33 = .ok (.invokevirtual 227, 3) := by decide +kernel
theorem dX2_areFarApart_36 : decode cX2_areFarApart 36 = .ok (.if_icmp .lt 16, 3) := by decide +kernel
theorem dX2_areFarApart_39 : decode cX2_areFarApart 39 = .ok (.aload_n 0, 1) := by decide +kernel
theorem dX2_areFarApart_40 : decode cX2_areFarApart 40 = .ok (.iload_n 2, 1) := by decide +kernel
theorem dX2_areFarApart_41 : decode cX2_areFarApart 41 = .ok (.invokevirtual 230, 3) := by decide +kernel
theorem dX2_areFarApart_44 : decode cX2_areFarApart 44 = .ok (.aload_n 0, 1) := by decide +kernel
theorem dX2_areFarApart_45 : decode cX2_areFarApart 45 = .ok (.iload_n 1, 1) := by decide +kernel
theorem dX2_areFarApart_46 : decode cX2_areFarApart 46 = .ok (.invokevirtual 227, 3) := by decide +kernel
theorem dX2_areFarApart_49 : decode cX2_areFarApart 49 = .ok (.if_icmp .ge 7, 3) := by decide +kernel
theorem dX2_areFarApart_52 : decode cX2_areFarApart 52 = .ok (.iconst 1, 1) := by decide +kernel
theorem dX2_areFarApart_53 : decode cX2_areFarApart 53 = .ok (.goto 4, 3) := by decide +kernel
theorem dX2_areFarApart_56 : decode cX2_areFarApart 56 = .ok (.iconst 0, 1) := by decide +kernel
theorem dX2_areFarApart_57 : decode cX2_areFarApart 57 = .ok (.ireturn, 1) := by decide +kernel
set_option maxRecDepth 20000 in
theorem ggX2_haveSameCorners_X1_cornerOf : GoodIn wsX2_haveSameCorners wsX1_cornerOf := goodIn_r _ [6, 7, 18, 19, 20, 21] (by decide +kernel) (by decide +kernel)
set_option maxRecDepth 20000 in
theorem gX2_haveSameCorners_X1_cornerOf : GoodIn wsX2_haveSameCorners (wsV RX2 107 RX1 yX1_cornerOf wsX1_cornerOf) := goodIn_app (goodIn_of _ (by decide +kernel)) ggX2_haveSameCorners_X1_cornerOf
set_option maxRecDepth 20000 in
theorem ggX2_haveSameCorners_X1_hasCorner : GoodIn wsX2_haveSameCorners wsX1_hasCorner := goodIn_r _ [11, 7, 18, 19, 20, 21] (by decide +kernel) (by decide +kernel)
set_option maxRecDepth 20000 in
theorem gX2_haveSameCorners_X1_hasCorner : GoodIn wsX2_haveSameCorners (wsV RX2 268 RX1 yX1_hasCorner wsX1_hasCorner) := goodIn_app (goodIn_of _ (by decide +kernel)) ggX2_haveSameCorners_X1_hasCorner
theorem dX2_haveSameCorners_0 : decode cX2_haveSameCorners 0 = .ok (.iconst 0, 1) := by decide +kernel
theorem dX2_haveSameCorners_1 : decode cX2_haveSameCorners 1 = .ok (.istore_n 3, 1) := by decide +kernel
theorem dX2_haveSameCorners_2 : decode cX2_haveSameCorners 2 = .ok (.iload_n 3, 1) := by decide +kernel
theorem dX2_haveSameCorners_3 : decode cX2_haveSameCorners 3 = .ok (.iconst 3, 1) := by decide +kernel
theorem dX2_haveSameCorners_4 : decode cX2_haveSameCorners 4 = .ok (.if_icmp .ge 31, 3) := by decide +kernel
theorem dX2_haveSameCorners_7 : decode cX2_haveSameCorners 7 = .ok (.aload_n 0, 1) := by decide +kernel
theorem dX2_haveSameCorners_8 : decode cX2_haveSameCorners 8 = .ok (.getfield 19, 3) := by decide +kernel
theorem dX2_haveSameCorners_11 : decode cX2_haveSameCorners 11 = .ok (.iload_n 2, 1) := by decide +kernel
theorem dX2_haveSameCorners_12 : decode cX2_haveSameCorners 12 = .ok (.aload_n 0, 1) := by decide +kernel
theorem dX2_haveSameCorners_13 : decode cX2_haveSameCorners 13 = .ok (.getfield 19, 3) := by decide +kernel
theorem dX2_haveSameCorners_16 : decode cX2_haveSameCorners 16 = .ok (.iload_n 1, 1) := by decide +kernel
theorem dX2_haveSameCorners_17 : decode cX2_haveSameCorners 17 = .ok (.iload_n 3, 1) := by decide +kernel
theorem dX2_haveSameCorners_18 : decode cX2_haveSameCorners 18 = .ok (.invokevirtual 107, 3) := by decide +kernel
theorem dX2_haveSameCorners_21 : decode cX2_haveSameCorners 21 = .ok (.invokevirtual 268, 3) := by decide +kernel
theorem dX2_haveSameCorners_24 : decode cX2_haveSameCorners 24 = .ok (.ifCond .ne 5, 3) := by decide +kernel
theorem dX2_haveSameCorners_27 : decode cX2_haveSameCorners 27 = .ok (.iconst 0, 1) := by decide +kernel
theorem dX2_haveSameCorners_28 : decode cX2_haveSameCorners 28 = .ok (.ireturn, 1) := by decide +kernel
theorem dX2_haveSameCorners_29 : decode cX2_haveSameCorners 29 = .ok (.iinc 3 1, 3) := by decide +kernel
theorem dX2_haveSameCorners_32 : decode cX2_haveSameCorners 32 = .ok (.goto (-30), 3) := by decide +kernel
theorem dX2_haveSameCorners_35 : decode cX2_haveSameCorners 35 = .ok (.iconst 1, 1) := by decide +kernel
theorem dX2_haveSameCorners_36 : decode cX2_haveSameCorners 36 = .ok (.ireturn, 1) := by decide +kernel
set_option maxRecDepth 20000 in
theorem ggX2_reachesInto_X1_cornerOf : GoodIn wsX2_reachesInto wsX1_cornerOf := goodIn_r _ [7, 8, 43, 44, 45, 46] (by decide +kernel) (by decide +kernel)
set_option maxRecDepth 20000 in
theorem gX2_reachesInto_X1_cornerOf : GoodIn wsX2_reachesInto (wsV RX2 107 RX1 yX1_cornerOf wsX1_cornerOf) := goodIn_app (goodIn_of _ (by decide +kernel)) ggX2_reachesInto_X1_cornerOf
set_option maxRecDepth 20000 in
theorem ggX2_reachesInto_X1_hasCorner : GoodIn wsX2_reachesInto wsX1_hasCorner := goodIn_r _ [12, 8, 43, 44, 45, 46] (by decide +kernel) (by decide +kernel)
set_option maxRecDepth 20000 in
theorem gX2_reachesInto_X1_hasCorner : GoodIn wsX2_reachesInto (wsV RX2 268 RX1 yX1_hasCorner wsX1_hasCorner) := goodIn_app (goodIn_of _ (by decide +kernel)) ggX2_reachesInto_X1_hasCorner
set_option maxRecDepth 20000 in
theorem ggX2_reachesInto_X0_x : GoodIn wsX2_reachesInto wsX0_x := goodIn_r _ [17, 18, 47, 48, 49] (by decide +kernel) (by decide +kernel)
set_option maxRecDepth 20000 in
theorem gX2_reachesInto_X0_x : GoodIn wsX2_reachesInto (wsV RX2 213 RX0 yX0_x wsX0_x) := goodIn_app (goodIn_of _ (by decide +kernel)) ggX2_reachesInto_X0_x
set_option maxRecDepth 20000 in
theorem ggX2_reachesInto_X0_y : GoodIn wsX2_reachesInto wsX0_y := goodIn_r _ [22, 23, 47, 48, 49] (by decide +kernel) (by decide +kernel)
set_option maxRecDepth 20000 in
theorem gX2_reachesInto_X0_y : GoodIn wsX2_reachesInto (wsV RX2 210 RX0 yX0_y wsX0_y) := goodIn_app (goodIn_of _ (by decide +kernel)) ggX2_reachesInto_X0_y
set_option maxRecDepth 20000 in
theorem ggX2_reachesInto_X2_hasPlace : GoodIn wsX2_reachesInto wsX2_hasPlace := goodIn_r _ [28, 29, 30, 31, 27, 32, 2, 1, 3, 4, 5, 6, 7, 8, 33, 34, 35, 16, 36, 18, 23, 37, 38, 39, 40, 41, 42, 43, 44, 45, 46, 47, 48, 49] (by decide +kernel) (by decide +kernel)
set_option maxRecDepth 20000 in
theorem gX2_reachesInto_X2_hasPlace : GoodIn wsX2_reachesInto (wsV RX2 161 RX2 yX2_hasPlace wsX2_hasPlace) := goodIn_app (goodIn_of _ (by decide +kernel)) ggX2_reachesInto_X2_hasPlace
theorem dX2_reachesInto_0 : decode cX2_reachesInto 0 = .ok (.iconst 0, 1) := by decide +kernel
theorem dX2_reachesInto_1 : decode cX2_reachesInto 1 = .ok (.istore_n 3, 1) := by decide +kernel
theorem dX2_reachesInto_2 : decode cX2_reachesInto 2 = .ok (.iload_n 3, 1) := by decide +kernel
theorem dX2_reachesInto_3 : decode cX2_reachesInto 3 = .ok (.iconst 3, 1) := by decide +kernel
theorem dX2_reachesInto_4 : decode cX2_reachesInto 4 = .ok (.if_icmp .ge 61, 3) := by decide +kernel
theorem dX2_reachesInto_7 : decode cX2_reachesInto 7 = .ok (.aload_n 0, 1) := by decide +kernel
theorem dX2_reachesInto_8 : decode cX2_reachesInto 8 = .ok (.getfield 19, 3) := by decide +kernel
theorem dX2_reachesInto_11 : decode cX2_reachesInto 11 = .ok (.iload_n 1, 1) := by decide +kernel
theorem dX2_reachesInto_12 : decode cX2_reachesInto 12 = .ok (.iload_n 3, 1) := by decide +kernel
theorem dX2_reachesInto_13 : decode cX2_reachesInto 13 = .ok (.invokevirtual 107, 3) := by decide +kernel
theorem dX2_reachesInto_16 : decode cX2_reachesInto 16 = .ok (.istore 4, 2) := by decide +kernel
theorem dX2_reachesInto_18 : decode cX2_reachesInto 18 = .ok (.aload_n 0, 1) := by decide +kernel
theorem dX2_reachesInto_19 : decode cX2_reachesInto 19 = .ok (.getfield 19, 3) := by decide +kernel
theorem dX2_reachesInto_22 : decode cX2_reachesInto 22 = .ok (.iload_n 2, 1) := by decide +kernel
theorem dX2_reachesInto_23 : decode cX2_reachesInto 23 = .ok (.iload 4, 2) := by decide +kernel
theorem dX2_reachesInto_25 : decode cX2_reachesInto 25 = .ok (.invokevirtual 268, 3) := by decide +kernel
theorem dX2_reachesInto_28 : decode cX2_reachesInto 28 = .ok (.ifCond .ne 31, 3) := by decide +kernel
theorem dX2_reachesInto_31 : decode cX2_reachesInto 31 = .ok (.aload_n 0, 1) := by decide +kernel
theorem dX2_reachesInto_32 : decode cX2_reachesInto 32 = .ok (.iload_n 2, 1) := by decide +kernel
theorem dX2_reachesInto_33 : decode cX2_reachesInto 33 = .ok (.aload_n 0, 1) := by decide +kernel
theorem dX2_reachesInto_34 : decode cX2_reachesInto 34 = .ok (.getfield 10, 3) := by decide +kernel
theorem dX2_reachesInto_37 : decode cX2_reachesInto 37 = .ok (.iload 4, 2) := by decide +kernel
theorem dX2_reachesInto_39 : decode cX2_reachesInto 39 = .ok (.invokevirtual 213, 3) := by decide +kernel
theorem dX2_reachesInto_42 : decode cX2_reachesInto 42 = .ok (.aload_n 0, 1) := by decide +kernel
theorem dX2_reachesInto_43 : decode cX2_reachesInto 43 = .ok (.getfield 10, 3) := by decide +kernel
theorem dX2_reachesInto_46 : decode cX2_reachesInto 46 = .ok (.iload 4, 2) := by decide +kernel
theorem dX2_reachesInto_48 : decode cX2_reachesInto 48 = .ok (.invokevirtual 210, 3) := by decide +kernel
theorem dX2_reachesInto_51 : decode cX2_reachesInto 51 = .ok (.invokevirtual 161, 3) := by decide +kernel
theorem dX2_reachesInto_54 : decode cX2_reachesInto 54 = .ok (.ifCond .eq 5, 3) := by decide +kernel
theorem dX2_reachesInto_57 : decode cX2_reachesInto 57 = .ok (.iconst 1, 1) := by decide +kernel
theorem dX2_reachesInto_58 : decode cX2_reachesInto 58 = .ok (.ireturn, 1) := by decide +kernel
theorem dX2_reachesInto_59 : decode cX2_reachesInto 59 = .ok (.iinc 3 1, 3) := by decide +kernel
theorem dX2_reachesInto_62 : decode cX2_reachesInto 62 = .ok (.goto (-60), 3) := by decide +kernel
theorem dX2_reachesInto_65 : decode cX2_reachesInto 65 = .ok (.iconst 0, 1) := by decide +kernel
theorem dX2_reachesInto_66 : decode cX2_reachesInto 66 = .ok (.ireturn, 1) := by decide +kernel
set_option maxRecDepth 20000 in
theorem ggX2_crossesAnEdgeOf_X1_cornerOf : GoodIn wsX2_crossesAnEdgeOf wsX1_cornerOf := goodIn_r _ [7, 8, 33, 34, 35, 36] (by decide +kernel) (by decide +kernel)
set_option maxRecDepth 20000 in
theorem gX2_crossesAnEdgeOf_X1_cornerOf : GoodIn wsX2_crossesAnEdgeOf (wsV RX2 107 RX1 yX1_cornerOf wsX1_cornerOf) := goodIn_app (goodIn_of _ (by decide +kernel)) ggX2_crossesAnEdgeOf_X1_cornerOf
set_option maxRecDepth 20000 in
theorem ggX2_crossesAnEdgeOf_X0_isCrossing : GoodIn wsX2_crossesAnEdgeOf wsX0_isCrossing := goodIn_r _ [13, 14, 15, 16, 12, 17, 18, 19, 20, 21, 22, 23, 24, 25, 26, 37, 38, 39] (by decide +kernel) (by decide +kernel)
set_option maxRecDepth 20000 in
theorem gX2_crossesAnEdgeOf_X0_isCrossing : GoodIn wsX2_crossesAnEdgeOf (wsV RX2 271 RX0 yX0_isCrossing wsX0_isCrossing) := goodIn_app (goodIn_of _ (by decide +kernel)) ggX2_crossesAnEdgeOf_X0_isCrossing
theorem dX2_crossesAnEdgeOf_0 : decode cX2_crossesAnEdgeOf 0 = .ok (.iconst 0, 1) := by decide +kernel
theorem dX2_crossesAnEdgeOf_1 : decode cX2_crossesAnEdgeOf 1 = .ok (.istore_n 3, 1) := by decide +kernel
theorem dX2_crossesAnEdgeOf_2 : decode cX2_crossesAnEdgeOf 2 = .ok (.iload_n 3, 1) := by decide +kernel
theorem dX2_crossesAnEdgeOf_3 : decode cX2_crossesAnEdgeOf 3 = .ok (.iconst 3, 1) := by decide +kernel
theorem dX2_crossesAnEdgeOf_4 : decode cX2_crossesAnEdgeOf 4 = .ok (.if_icmp .ge 78, 3) := by decide +kernel
theorem dX2_crossesAnEdgeOf_7 : decode cX2_crossesAnEdgeOf 7 = .ok (.iconst 0, 1) := by decide +kernel
theorem dX2_crossesAnEdgeOf_8 : decode cX2_crossesAnEdgeOf 8 = .ok (.istore 4, 2) := by decide +kernel
theorem dX2_crossesAnEdgeOf_10 : decode cX2_crossesAnEdgeOf 10 = .ok (.iload 4, 2) := by decide +kernel
theorem dX2_crossesAnEdgeOf_12 : decode cX2_crossesAnEdgeOf 12 = .ok (.iconst 3, 1) := by decide +kernel
theorem dX2_crossesAnEdgeOf_13 : decode cX2_crossesAnEdgeOf 13 = .ok (.if_icmp .ge 63, 3) := by decide +kernel
theorem dX2_crossesAnEdgeOf_16 : decode cX2_crossesAnEdgeOf 16 = .ok (.aload_n 0, 1) := by decide +kernel
theorem dX2_crossesAnEdgeOf_17 : decode cX2_crossesAnEdgeOf 17 = .ok (.getfield 10, 3) := by decide +kernel
theorem dX2_crossesAnEdgeOf_20 : decode cX2_crossesAnEdgeOf 20 = .ok (.aload_n 0, 1) := by decide +kernel
theorem dX2_crossesAnEdgeOf_21 : decode cX2_crossesAnEdgeOf 21 = .ok (.getfield 19, 3) := by decide +kernel
theorem dX2_crossesAnEdgeOf_24 : decode cX2_crossesAnEdgeOf 24 = .ok (.iload_n 1, 1) := by decide +kernel
theorem dX2_crossesAnEdgeOf_25 : decode cX2_crossesAnEdgeOf 25 = .ok (.iload_n 3, 1) := by decide +kernel
theorem dX2_crossesAnEdgeOf_26 : decode cX2_crossesAnEdgeOf 26 = .ok (.invokevirtual 107, 3) := by decide +kernel
theorem dX2_crossesAnEdgeOf_29 : decode cX2_crossesAnEdgeOf 29 = .ok (.aload_n 0, 1) := by decide +kernel
theorem dX2_crossesAnEdgeOf_30 : decode cX2_crossesAnEdgeOf 30 = .ok (.getfield 19, 3) := by decide +kernel
theorem dX2_crossesAnEdgeOf_33 : decode cX2_crossesAnEdgeOf 33 = .ok (.iload_n 1, 1) := by decide +kernel
theorem dX2_crossesAnEdgeOf_34 : decode cX2_crossesAnEdgeOf 34 = .ok (.iload_n 3, 1) := by decide +kernel
theorem dX2_crossesAnEdgeOf_35 : decode cX2_crossesAnEdgeOf 35 = .ok (.iconst 1, 1) := by decide +kernel
theorem dX2_crossesAnEdgeOf_36 : decode cX2_crossesAnEdgeOf 36 = .ok (.iadd, 1) := by decide +kernel
theorem dX2_crossesAnEdgeOf_37 : decode cX2_crossesAnEdgeOf 37 = .ok (.invokevirtual 107, 3) := by decide +kernel
theorem dX2_crossesAnEdgeOf_40 : decode cX2_crossesAnEdgeOf 40 = .ok (.aload_n 0, 1) := by decide +kernel
theorem dX2_crossesAnEdgeOf_41 : decode cX2_crossesAnEdgeOf 41 = .ok (.getfield 19, 3) := by decide +kernel
theorem dX2_crossesAnEdgeOf_44 : decode cX2_crossesAnEdgeOf 44 = .ok (.iload_n 2, 1) := by decide +kernel
theorem dX2_crossesAnEdgeOf_45 : decode cX2_crossesAnEdgeOf 45 = .ok (.iload 4, 2) := by decide +kernel
theorem dX2_crossesAnEdgeOf_47 : decode cX2_crossesAnEdgeOf 47 = .ok (.invokevirtual 107, 3) := by decide +kernel
theorem dX2_crossesAnEdgeOf_50 : decode cX2_crossesAnEdgeOf 50 = .ok (.aload_n 0, 1) := by decide +kernel
theorem dX2_crossesAnEdgeOf_51 : decode cX2_crossesAnEdgeOf 51 = .ok (.getfield 19, 3) := by decide +kernel
theorem dX2_crossesAnEdgeOf_54 : decode cX2_crossesAnEdgeOf 54 = .ok (.iload_n 2, 1) := by decide +kernel
theorem dX2_crossesAnEdgeOf_55 : decode cX2_crossesAnEdgeOf 55 = .ok (.iload 4, 2) := by decide +kernel
theorem dX2_crossesAnEdgeOf_57 : decode cX2_crossesAnEdgeOf 57 = .ok (.iconst 1, 1) := by decide +kernel
theorem dX2_crossesAnEdgeOf_58 : decode cX2_crossesAnEdgeOf 58 = .ok (.iadd, 1) := by decide +kernel
theorem dX2_crossesAnEdgeOf_59 : decode cX2_crossesAnEdgeOf 59 = .ok (.invokevirtual 107, 3) := by decide +kernel
theorem dX2_crossesAnEdgeOf_62 : decode cX2_crossesAnEdgeOf 62 = .ok (.invokevirtual 271, 3) := by decide +kernel
theorem dX2_crossesAnEdgeOf_65 : decode cX2_crossesAnEdgeOf 65 = .ok (.ifCond .eq 5, 3) := by decide +kernel
theorem dX2_crossesAnEdgeOf_68 : decode cX2_crossesAnEdgeOf 68 = .ok (.iconst 1, 1) := by decide +kernel
theorem dX2_crossesAnEdgeOf_69 : decode cX2_crossesAnEdgeOf 69 = .ok (.ireturn, 1) := by decide +kernel
theorem dX2_crossesAnEdgeOf_70 : decode cX2_crossesAnEdgeOf 70 = .ok (.iinc 4 1, 3) := by decide +kernel
theorem dX2_crossesAnEdgeOf_73 : decode cX2_crossesAnEdgeOf 73 = .ok (.goto (-63), 3) := by decide +kernel
theorem dX2_crossesAnEdgeOf_76 : decode cX2_crossesAnEdgeOf 76 = .ok (.iinc 3 1, 3) := by decide +kernel
theorem dX2_crossesAnEdgeOf_79 : decode cX2_crossesAnEdgeOf 79 = .ok (.goto (-77), 3) := by decide +kernel
theorem dX2_crossesAnEdgeOf_82 : decode cX2_crossesAnEdgeOf 82 = .ok (.iconst 0, 1) := by decide +kernel
theorem dX2_crossesAnEdgeOf_83 : decode cX2_crossesAnEdgeOf 83 = .ok (.ireturn, 1) := by decide +kernel
set_option maxRecDepth 20000 in
theorem ggX2_isGoodEdge_X1_neighbour : GoodIn wsX2_isGoodEdge wsX1_neighbour := goodIn_r _ [7, 8, 9, 10, 11, 12, 6, 13, 14, 15, 16, 17, 18, 37, 38, 39, 40] (by decide +kernel) (by decide +kernel)
set_option maxRecDepth 20000 in
theorem gX2_isGoodEdge_X1_neighbour : GoodIn wsX2_isGoodEdge (wsV RX2 164 RX1 yX1_neighbour wsX1_neighbour) := goodIn_app (goodIn_of _ (by decide +kernel)) ggX2_isGoodEdge_X1_neighbour
set_option maxRecDepth 20000 in
theorem ggX2_isGoodEdge_X1_cornerOf : GoodIn wsX2_isGoodEdge wsX1_cornerOf := goodIn_r _ [13, 14, 37, 38, 39, 40] (by decide +kernel) (by decide +kernel)
set_option maxRecDepth 20000 in
theorem gX2_isGoodEdge_X1_cornerOf : GoodIn wsX2_isGoodEdge (wsV RX2 107 RX1 yX1_cornerOf wsX1_cornerOf) := goodIn_app (goodIn_of _ (by decide +kernel)) ggX2_isGoodEdge_X1_cornerOf
set_option maxRecDepth 20000 in
theorem ggX2_isGoodEdge_X1_thirdCorner : GoodIn wsX2_isGoodEdge wsX1_thirdCorner := goodIn_r _ [23, 14, 37, 38, 39, 40] (by decide +kernel) (by decide +kernel)
set_option maxRecDepth 20000 in
theorem gX2_isGoodEdge_X1_thirdCorner : GoodIn wsX2_isGoodEdge (wsV RX2 275 RX1 yX1_thirdCorner wsX1_thirdCorner) := goodIn_app (goodIn_of _ (by decide +kernel)) ggX2_isGoodEdge_X1_thirdCorner
set_option maxRecDepth 20000 in
theorem ggX2_isGoodEdge_X0_circleSide : GoodIn wsX2_isGoodEdge wsX0_circleSide := goodIn_r _ [28, 29, 30, 41, 42, 43] (by decide +kernel) (by decide +kernel)
set_option maxRecDepth 20000 in
theorem gX2_isGoodEdge_X0_circleSide : GoodIn wsX2_isGoodEdge (wsV RX2 278 RX0 yX0_circleSide wsX0_circleSide) := goodIn_app (goodIn_of _ (by decide +kernel)) ggX2_isGoodEdge_X0_circleSide
theorem dX2_isGoodEdge_0 : decode cX2_isGoodEdge 0 = .ok (.aload_n 0, 1) := by decide +kernel
theorem dX2_isGoodEdge_1 : decode cX2_isGoodEdge 1 = .ok (.getfield 19, 3) := by decide +kernel
theorem dX2_isGoodEdge_4 : decode cX2_isGoodEdge 4 = .ok (.iload_n 1, 1) := by decide +kernel
theorem dX2_isGoodEdge_5 : decode cX2_isGoodEdge 5 = .ok (.iload_n 2, 1) := by decide +kernel
theorem dX2_isGoodEdge_6 : decode cX2_isGoodEdge 6 = .ok (.invokevirtual 164, 3) := by decide +kernel
theorem dX2_isGoodEdge_9 : decode cX2_isGoodEdge 9 = .ok (.istore_n 3, 1) := by decide +kernel
theorem dX2_isGoodEdge_10 : decode cX2_isGoodEdge 10 = .ok (.iload_n 3, 1) := by decide +kernel
theorem dX2_isGoodEdge_11 : decode cX2_isGoodEdge 11 = .ok (.iconst (-1), 1) := by decide +kernel
theorem dX2_isGoodEdge_12 : decode cX2_isGoodEdge 12 = .ok (.if_icmp .ne 5, 3) := by decide +kernel
theorem dX2_isGoodEdge_15 : decode cX2_isGoodEdge 15 = .ok (.iconst 1, 1) := by decide +kernel
theorem dX2_isGoodEdge_16 : decode cX2_isGoodEdge 16 = .ok (.ireturn, 1) := by decide +kernel
theorem dX2_isGoodEdge_17 : decode cX2_isGoodEdge 17 = .ok (.aload_n 0, 1) := by decide +kernel
theorem dX2_isGoodEdge_18 : decode cX2_isGoodEdge 18 = .ok (.getfield 19, 3) := by decide +kernel
theorem dX2_isGoodEdge_21 : decode cX2_isGoodEdge 21 = .ok (.iload_n 1, 1) := by decide +kernel
theorem dX2_isGoodEdge_22 : decode cX2_isGoodEdge 22 = .ok (.iload_n 2, 1) := by decide +kernel
theorem dX2_isGoodEdge_23 : decode cX2_isGoodEdge 23 = .ok (.invokevirtual 107, 3) := by decide +kernel
theorem dX2_isGoodEdge_26 : decode cX2_isGoodEdge 26 = .ok (.istore 4, 2) := by decide +kernel
theorem dX2_isGoodEdge_28 : decode cX2_isGoodEdge 28 = .ok (.aload_n 0, 1) := by decide +kernel
theorem dX2_isGoodEdge_29 : decode cX2_isGoodEdge 29 = .ok (.getfield 19, 3) := by decide +kernel
theorem dX2_isGoodEdge_32 : decode cX2_isGoodEdge 32 = .ok (.iload_n 1, 1) := by decide +kernel
theorem dX2_isGoodEdge_33 : decode cX2_isGoodEdge 33 = .ok (.iload_n 2, 1) := by decide +kernel
theorem dX2_isGoodEdge_34 : decode cX2_isGoodEdge 34 = .ok (.iconst 1, 1) := by decide +kernel
theorem dX2_isGoodEdge_35 : decode cX2_isGoodEdge 35 = .ok (.iadd, 1) := by decide +kernel
theorem dX2_isGoodEdge_36 : decode cX2_isGoodEdge 36 = .ok (.invokevirtual 107, 3) := by decide +kernel
theorem dX2_isGoodEdge_39 : decode cX2_isGoodEdge 39 = .ok (.istore 5, 2) := by decide +kernel
theorem dX2_isGoodEdge_41 : decode cX2_isGoodEdge 41 = .ok (.aload_n 0, 1) := by decide +kernel
theorem dX2_isGoodEdge_42 : decode cX2_isGoodEdge 42 = .ok (.getfield 19, 3) := by decide +kernel
theorem dX2_isGoodEdge_45 : decode cX2_isGoodEdge 45 = .ok (.iload_n 1, 1) := by decide +kernel
theorem dX2_isGoodEdge_46 : decode cX2_isGoodEdge 46 = .ok (.iload_n 2, 1) := by decide +kernel
theorem dX2_isGoodEdge_47 : decode cX2_isGoodEdge 47 = .ok (.iconst 2, 1) := by decide +kernel
theorem dX2_isGoodEdge_48 : decode cX2_isGoodEdge 48 = .ok (.iadd, 1) := by decide +kernel
theorem dX2_isGoodEdge_49 : decode cX2_isGoodEdge 49 = .ok (.invokevirtual 107, 3) := by decide +kernel
theorem dX2_isGoodEdge_52 : decode cX2_isGoodEdge 52 = .ok (.istore 6, 2) := by decide +kernel
theorem dX2_isGoodEdge_54 : decode cX2_isGoodEdge 54 = .ok (.aload_n 0, 1) := by decide +kernel
theorem dX2_isGoodEdge_55 : decode cX2_isGoodEdge 55 = .ok (.getfield 10, 3) := by decide +kernel
theorem dX2_isGoodEdge_58 : decode cX2_isGoodEdge 58 = .ok (.iload 4, 2) := by decide +kernel
theorem dX2_isGoodEdge_60 : decode cX2_isGoodEdge 60 = .ok (.iload 5, 2) := by decide +kernel
theorem dX2_isGoodEdge_62 : decode cX2_isGoodEdge 62 = .ok (.iload 6, 2) := by decide +kernel
theorem dX2_isGoodEdge_64 : decode cX2_isGoodEdge 64 = .ok (.aload_n 0, 1) := by decide +kernel
theorem dX2_isGoodEdge_65 : decode cX2_isGoodEdge 65 = .ok (.getfield 19, 3) := by decide +kernel
theorem dX2_isGoodEdge_68 : decode cX2_isGoodEdge 68 = .ok (.iload_n 3, 1) := by decide +kernel
theorem dX2_isGoodEdge_69 : decode cX2_isGoodEdge 69 = .ok (.iload 4, 2) := by decide +kernel
theorem dX2_isGoodEdge_71 : decode cX2_isGoodEdge 71 = .ok (.iload 5, 2) := by decide +kernel
theorem dX2_isGoodEdge_73 : decode cX2_isGoodEdge 73 = .ok (.invokevirtual 275, 3) := by decide +kernel
theorem dX2_isGoodEdge_76 : decode cX2_isGoodEdge 76 = .ok (.invokevirtual 278, 3) := by decide +kernel
end
section
theorem dX2_isGoodEdge_79 : decode cX2_isGoodEdge 79 = .ok (.lconst 0, 1) := by decide +kernel
theorem dX2_isGoodEdge_80 : decode cX2_isGoodEdge 80 = .ok (.lcmp, 1) := by decide +kernel
theorem dX2_isGoodEdge_81 : decode cX2_isGoodEdge 81 = .ok (.ifCond .gt 7, 3) := by decide +kernel
theorem dX2_isGoodEdge_84 : decode cX2_isGoodEdge 84 = .ok (.iconst 1, 1) := by decide +kernel
theorem dX2_isGoodEdge_85 : decode cX2_isGoodEdge 85 = .ok (.goto 4, 3) := by decide +kernel
theorem dX2_isGoodEdge_88 : decode cX2_isGoodEdge 88 = .ok (.iconst 0, 1) := by decide +kernel
theorem dX2_isGoodEdge_89 : decode cX2_isGoodEdge 89 = .ok (.ireturn, 1) := by decide +kernel
set_option maxRecDepth 20000 in
theorem ggX2_turnEdge_X1_neighbour : GoodIn wsX2_turnEdge wsX1_neighbour := goodIn_r _ [7, 8, 9, 10, 11, 12, 6, 13, 14, 15, 16, 17, 18, 45, 46, 47, 48] (by decide +kernel) (by decide +kernel)
set_option maxRecDepth 20000 in
theorem gX2_turnEdge_X1_neighbour : GoodIn wsX2_turnEdge (wsV RX2 164 RX1 yX1_neighbour wsX1_neighbour) := goodIn_app (goodIn_of _ (by decide +kernel)) ggX2_turnEdge_X1_neighbour
set_option maxRecDepth 20000 in
theorem ggX2_turnEdge_X1_cornerOf : GoodIn wsX2_turnEdge wsX1_cornerOf := goodIn_r _ [13, 14, 45, 46, 47, 48] (by decide +kernel) (by decide +kernel)
set_option maxRecDepth 20000 in
theorem gX2_turnEdge_X1_cornerOf : GoodIn wsX2_turnEdge (wsV RX2 107 RX1 yX1_cornerOf wsX1_cornerOf) := goodIn_app (goodIn_of _ (by decide +kernel)) ggX2_turnEdge_X1_cornerOf
set_option maxRecDepth 20000 in
theorem ggX2_turnEdge_X1_thirdCorner : GoodIn wsX2_turnEdge wsX1_thirdCorner := goodIn_r _ [23, 14, 45, 46, 47, 48] (by decide +kernel) (by decide +kernel)
set_option maxRecDepth 20000 in
theorem gX2_turnEdge_X1_thirdCorner : GoodIn wsX2_turnEdge (wsV RX2 275 RX1 yX1_thirdCorner wsX1_thirdCorner) := goodIn_app (goodIn_of _ (by decide +kernel)) ggX2_turnEdge_X1_thirdCorner
set_option maxRecDepth 20000 in
theorem ggX2_turnEdge_X0_turnOf : GoodIn wsX2_turnEdge wsX0_turnOf := goodIn_r _ [28, 29, 30, 31, 32, 33, 27, 34, 49, 50, 51] (by decide +kernel) (by decide +kernel)
set_option maxRecDepth 20000 in
theorem gX2_turnEdge_X0_turnOf : GoodIn wsX2_turnEdge (wsV RX2 189 RX0 yX0_turnOf wsX0_turnOf) := goodIn_app (goodIn_of _ (by decide +kernel)) ggX2_turnEdge_X0_turnOf
set_option maxRecDepth 20000 in
theorem ggX2_turnEdge_X1_put : GoodIn wsX2_turnEdge wsX1_put := goodIn_r _ [38, 14, 45, 46, 47, 48] (by decide +kernel) (by decide +kernel)
set_option maxRecDepth 20000 in
theorem gX2_turnEdge_X1_put : GoodIn wsX2_turnEdge (wsV RX2 110 RX1 yX1_put wsX1_put) := goodIn_app (goodIn_of _ (by decide +kernel)) ggX2_turnEdge_X1_put
theorem dX2_turnEdge_0 : decode cX2_turnEdge 0 = .ok (.aload_n 0, 1) := by decide +kernel
theorem dX2_turnEdge_1 : decode cX2_turnEdge 1 = .ok (.getfield 19, 3) := by decide +kernel
theorem dX2_turnEdge_4 : decode cX2_turnEdge 4 = .ok (.iload_n 1, 1) := by decide +kernel
theorem dX2_turnEdge_5 : decode cX2_turnEdge 5 = .ok (.iload_n 2, 1) := by decide +kernel
theorem dX2_turnEdge_6 : decode cX2_turnEdge 6 = .ok (.invokevirtual 164, 3) := by decide +kernel
theorem dX2_turnEdge_9 : decode cX2_turnEdge 9 = .ok (.istore_n 3, 1) := by decide +kernel
theorem dX2_turnEdge_10 : decode cX2_turnEdge 10 = .ok (.iload_n 3, 1) := by decide +kernel
theorem dX2_turnEdge_11 : decode cX2_turnEdge 11 = .ok (.iconst (-1), 1) := by decide +kernel
theorem dX2_turnEdge_12 : decode cX2_turnEdge 12 = .ok (.if_icmp .ne 5, 3) := by decide +kernel
theorem dX2_turnEdge_15 : decode cX2_turnEdge 15 = .ok (.iconst 0, 1) := by decide +kernel
theorem dX2_turnEdge_16 : decode cX2_turnEdge 16 = .ok (.ireturn, 1) := by decide +kernel
theorem dX2_turnEdge_17 : decode cX2_turnEdge 17 = .ok (.aload_n 0, 1) := by decide +kernel
theorem dX2_turnEdge_18 : decode cX2_turnEdge 18 = .ok (.getfield 19, 3) := by decide +kernel
theorem dX2_turnEdge_21 : decode cX2_turnEdge 21 = .ok (.iload_n 1, 1) := by decide +kernel
theorem dX2_turnEdge_22 : decode cX2_turnEdge 22 = .ok (.iload_n 2, 1) := by decide +kernel
theorem dX2_turnEdge_23 : decode cX2_turnEdge 23 = .ok (.invokevirtual 107, 3) := by decide +kernel
theorem dX2_turnEdge_26 : decode cX2_turnEdge 26 = .ok (.istore 4, 2) := by decide +kernel
theorem dX2_turnEdge_28 : decode cX2_turnEdge 28 = .ok (.aload_n 0, 1) := by decide +kernel
theorem dX2_turnEdge_29 : decode cX2_turnEdge 29 = .ok (.getfield 19, 3) := by decide +kernel
theorem dX2_turnEdge_32 : decode cX2_turnEdge 32 = .ok (.iload_n 1, 1) := by decide +kernel
theorem dX2_turnEdge_33 : decode cX2_turnEdge 33 = .ok (.iload_n 2, 1) := by decide +kernel
theorem dX2_turnEdge_34 : decode cX2_turnEdge 34 = .ok (.iconst 1, 1) := by decide +kernel
theorem dX2_turnEdge_35 : decode cX2_turnEdge 35 = .ok (.iadd, 1) := by decide +kernel
theorem dX2_turnEdge_36 : decode cX2_turnEdge 36 = .ok (.invokevirtual 107, 3) := by decide +kernel
theorem dX2_turnEdge_39 : decode cX2_turnEdge 39 = .ok (.istore 5, 2) := by decide +kernel
theorem dX2_turnEdge_41 : decode cX2_turnEdge 41 = .ok (.aload_n 0, 1) := by decide +kernel
theorem dX2_turnEdge_42 : decode cX2_turnEdge 42 = .ok (.getfield 19, 3) := by decide +kernel
theorem dX2_turnEdge_45 : decode cX2_turnEdge 45 = .ok (.iload_n 1, 1) := by decide +kernel
theorem dX2_turnEdge_46 : decode cX2_turnEdge 46 = .ok (.iload_n 2, 1) := by decide +kernel
theorem dX2_turnEdge_47 : decode cX2_turnEdge 47 = .ok (.iconst 2, 1) := by decide +kernel
theorem dX2_turnEdge_48 : decode cX2_turnEdge 48 = .ok (.iadd, 1) := by decide +kernel
theorem dX2_turnEdge_49 : decode cX2_turnEdge 49 = .ok (.invokevirtual 107, 3) := by decide +kernel
theorem dX2_turnEdge_52 : decode cX2_turnEdge 52 = .ok (.istore 6, 2) := by decide +kernel
theorem dX2_turnEdge_54 : decode cX2_turnEdge 54 = .ok (.aload_n 0, 1) := by decide +kernel
theorem dX2_turnEdge_55 : decode cX2_turnEdge 55 = .ok (.getfield 19, 3) := by decide +kernel
theorem dX2_turnEdge_58 : decode cX2_turnEdge 58 = .ok (.iload_n 3, 1) := by decide +kernel
theorem dX2_turnEdge_59 : decode cX2_turnEdge 59 = .ok (.iload 4, 2) := by decide +kernel
theorem dX2_turnEdge_61 : decode cX2_turnEdge 61 = .ok (.iload 5, 2) := by decide +kernel
theorem dX2_turnEdge_63 : decode cX2_turnEdge 63 = .ok (.invokevirtual 275, 3) := by decide +kernel
theorem dX2_turnEdge_66 : decode cX2_turnEdge 66 = .ok (.istore 7, 2) := by decide +kernel
theorem dX2_turnEdge_68 : decode cX2_turnEdge 68 = .ok (.aload_n 0, 1) := by decide +kernel
theorem dX2_turnEdge_69 : decode cX2_turnEdge 69 = .ok (.getfield 10, 3) := by decide +kernel
theorem dX2_turnEdge_72 : decode cX2_turnEdge 72 = .ok (.iload 4, 2) := by decide +kernel
theorem dX2_turnEdge_74 : decode cX2_turnEdge 74 = .ok (.iload 7, 2) := by decide +kernel
theorem dX2_turnEdge_76 : decode cX2_turnEdge 76 = .ok (.iload 6, 2) := by decide +kernel
theorem dX2_turnEdge_78 : decode cX2_turnEdge 78 = .ok (.invokevirtual 189, 3) := by decide +kernel
theorem dX2_turnEdge_81 : decode cX2_turnEdge 81 = .ok (.ifCond .le 19, 3) := by decide +kernel
theorem dX2_turnEdge_84 : decode cX2_turnEdge 84 = .ok (.aload_n 0, 1) := by decide +kernel
theorem dX2_turnEdge_85 : decode cX2_turnEdge 85 = .ok (.getfield 10, 3) := by decide +kernel
theorem dX2_turnEdge_88 : decode cX2_turnEdge 88 = .ok (.iload 7, 2) := by decide +kernel
theorem dX2_turnEdge_90 : decode cX2_turnEdge 90 = .ok (.iload 5, 2) := by decide +kernel
theorem dX2_turnEdge_92 : decode cX2_turnEdge 92 = .ok (.iload 6, 2) := by decide +kernel
theorem dX2_turnEdge_94 : decode cX2_turnEdge 94 = .ok (.invokevirtual 189, 3) := by decide +kernel
theorem dX2_turnEdge_97 : decode cX2_turnEdge 97 = .ok (.ifCond .gt 5, 3) := by decide +kernel
theorem dX2_turnEdge_100 : decode cX2_turnEdge 100 = .ok (.iconst 0, 1) := by decide +kernel
theorem dX2_turnEdge_101 : decode cX2_turnEdge 101 = .ok (.ireturn, 1) := by decide +kernel
theorem dX2_turnEdge_102 : decode cX2_turnEdge 102 = .ok (.aload_n 0, 1) := by decide +kernel
theorem dX2_turnEdge_103 : decode cX2_turnEdge 103 = .ok (.getfield 19, 3) := by decide +kernel
theorem dX2_turnEdge_106 : decode cX2_turnEdge 106 = .ok (.iload_n 1, 1) := by decide +kernel
theorem dX2_turnEdge_107 : decode cX2_turnEdge 107 = .ok (.iload 6, 2) := by decide +kernel
theorem dX2_turnEdge_109 : decode cX2_turnEdge 109 = .ok (.iload 4, 2) := by decide +kernel
theorem dX2_turnEdge_111 : decode cX2_turnEdge 111 = .ok (.iload 7, 2) := by decide +kernel
theorem dX2_turnEdge_113 : decode cX2_turnEdge 113 = .ok (.invokevirtual 110, 3) := by decide +kernel
theorem dX2_turnEdge_116 : decode cX2_turnEdge 116 = .ok (.aload_n 0, 1) := by decide +kernel
theorem dX2_turnEdge_117 : decode cX2_turnEdge 117 = .ok (.getfield 19, 3) := by decide +kernel
theorem dX2_turnEdge_120 : decode cX2_turnEdge 120 = .ok (.iload_n 3, 1) := by decide +kernel
theorem dX2_turnEdge_121 : decode cX2_turnEdge 121 = .ok (.iload 7, 2) := by decide +kernel
theorem dX2_turnEdge_123 : decode cX2_turnEdge 123 = .ok (.iload 5, 2) := by decide +kernel
theorem dX2_turnEdge_125 : decode cX2_turnEdge 125 = .ok (.iload 6, 2) := by decide +kernel
theorem dX2_turnEdge_127 : decode cX2_turnEdge 127 = .ok (.invokevirtual 110, 3) := by decide +kernel
theorem dX2_turnEdge_130 : decode cX2_turnEdge 130 = .ok (.iconst 1, 1) := by decide +kernel
theorem dX2_turnEdge_131 : decode cX2_turnEdge 131 = .ok (.ireturn, 1) := by decide +kernel
set_option maxRecDepth 20000 in
theorem ggX2_turnFirstBadEdge_X1_thereCount : GoodIn wsX2_turnFirstBadEdge wsX1_thereCount := goodIn_r _ [6, 7, 66, 67, 68, 69] (by decide +kernel) (by decide +kernel)
set_option maxRecDepth 20000 in
theorem gX2_turnFirstBadEdge_X1_thereCount : GoodIn wsX2_turnFirstBadEdge (wsV RX2 127 RX1 yX1_thereCount wsX1_thereCount) := goodIn_app (goodIn_of _ (by decide +kernel)) ggX2_turnFirstBadEdge_X1_thereCount
set_option maxRecDepth 20000 in
theorem ggX2_turnFirstBadEdge_X1_numberAt : GoodIn wsX2_turnFirstBadEdge wsX1_numberAt := goodIn_r _ [11, 12, 66, 67, 68, 69] (by decide +kernel) (by decide +kernel)
set_option maxRecDepth 20000 in
theorem gX2_turnFirstBadEdge_X1_numberAt : GoodIn wsX2_turnFirstBadEdge (wsV RX2 131 RX1 yX1_numberAt wsX1_numberAt) := goodIn_app (goodIn_of _ (by decide +kernel)) ggX2_turnFirstBadEdge_X1_numberAt
set_option maxRecDepth 20000 in
theorem ggX2_turnFirstBadEdge_X2_isGoodEdge : GoodIn wsX2_turnFirstBadEdge wsX2_isGoodEdge := goodIn_r _ [17, 1, 18, 19, 20, 21, 5, 22, 7, 12, 23, 24, 25, 26, 27, 28, 29, 30, 31, 32, 33, 34, 35, 36, 37, 38, 39, 40, 41, 42, 43, 60, 61, 62, 63, 64, 65, 66, 67, 68, 69, 70, 71, 72] (by decide +kernel) (by decide +kernel)
set_option maxRecDepth 20000 in
theorem gX2_turnFirstBadEdge_X2_isGoodEdge : GoodIn wsX2_turnFirstBadEdge (wsV RX2 167 RX2 yX2_isGoodEdge wsX2_isGoodEdge) := goodIn_app (goodIn_of _ (by decide +kernel)) ggX2_turnFirstBadEdge_X2_isGoodEdge
set_option maxRecDepth 20000 in
theorem ggX2_turnFirstBadEdge_X2_turnEdge : GoodIn wsX2_turnFirstBadEdge wsX2_turnEdge := goodIn_r _ [47, 1, 18, 19, 20, 21, 5, 22, 7, 12, 23, 24, 25, 26, 27, 28, 29, 30, 31, 32, 33, 34, 35, 36, 48, 49, 50, 40, 51, 42, 43, 52, 53, 54, 55, 56, 57, 58, 59, 60, 61, 62, 63, 64, 65, 66, 67, 68, 69, 70, 71, 72] (by decide +kernel) (by decide +kernel)
set_option maxRecDepth 20000 in
theorem gX2_turnFirstBadEdge_X2_turnEdge : GoodIn wsX2_turnFirstBadEdge (wsV RX2 118 RX2 yX2_turnEdge wsX2_turnEdge) := goodIn_app (goodIn_of _ (by decide +kernel)) ggX2_turnFirstBadEdge_X2_turnEdge
theorem dX2_turnFirstBadEdge_0 : decode cX2_turnFirstBadEdge 0 = .ok (.iconst 0, 1) := by decide +kernel
theorem dX2_turnFirstBadEdge_1 : decode cX2_turnFirstBadEdge 1 = .ok (.istore_n 1, 1) := by decide +kernel
theorem dX2_turnFirstBadEdge_2 : decode cX2_turnFirstBadEdge 2 = .ok (.iload_n 1, 1) := by decide +kernel
theorem dX2_turnFirstBadEdge_3 : decode cX2_turnFirstBadEdge 3 = .ok (.aload_n 0, 1) := by decide +kernel
theorem dX2_turnFirstBadEdge_4 : decode cX2_turnFirstBadEdge 4 = .ok (.getfield 19, 3) := by decide +kernel
theorem dX2_turnFirstBadEdge_7 : decode cX2_turnFirstBadEdge 7 = .ok (.invokevirtual 127, 3) := by decide +kernel
theorem dX2_turnFirstBadEdge_10 : decode cX2_turnFirstBadEdge 10 = .ok (.if_icmp .ge 51, 3) := by decide +kernel
theorem dX2_turnFirstBadEdge_13 : decode cX2_turnFirstBadEdge 13 = .ok (.aload_n 0, 1) := by decide +kernel
theorem dX2_turnFirstBadEdge_14 : decode cX2_turnFirstBadEdge 14 = .ok (.getfield 19, 3) := by decide +kernel
theorem dX2_turnFirstBadEdge_17 : decode cX2_turnFirstBadEdge 17 = .ok (.iload_n 1, 1) := by decide +kernel
theorem dX2_turnFirstBadEdge_18 : decode cX2_turnFirstBadEdge 18 = .ok (.invokevirtual 131, 3) := by decide +kernel
theorem dX2_turnFirstBadEdge_21 : decode cX2_turnFirstBadEdge 21 = .ok (.istore_n 2, 1) := by decide +kernel
theorem dX2_turnFirstBadEdge_22 : decode cX2_turnFirstBadEdge 22 = .ok (.iconst 0, 1) := by decide +kernel
theorem dX2_turnFirstBadEdge_23 : decode cX2_turnFirstBadEdge 23 = .ok (.istore_n 3, 1) := by decide +kernel
theorem dX2_turnFirstBadEdge_24 : decode cX2_turnFirstBadEdge 24 = .ok (.iload_n 3, 1) := by decide +kernel
theorem dX2_turnFirstBadEdge_25 : decode cX2_turnFirstBadEdge 25 = .ok (.iconst 3, 1) := by decide +kernel
theorem dX2_turnFirstBadEdge_26 : decode cX2_turnFirstBadEdge 26 = .ok (.if_icmp .ge 29, 3) := by decide +kernel
theorem dX2_turnFirstBadEdge_29 : decode cX2_turnFirstBadEdge 29 = .ok (.aload_n 0, 1) := by decide +kernel
theorem dX2_turnFirstBadEdge_30 : decode cX2_turnFirstBadEdge 30 = .ok (.iload_n 2, 1) := by decide +kernel
theorem dX2_turnFirstBadEdge_31 : decode cX2_turnFirstBadEdge 31 = .ok (.iload_n 3, 1) := by decide +kernel
theorem dX2_turnFirstBadEdge_32 : decode cX2_turnFirstBadEdge 32 = .ok (.invokevirtual 167, 3) := by decide +kernel
theorem dX2_turnFirstBadEdge_35 : decode cX2_turnFirstBadEdge 35 = .ok (.ifCond .ne 14, 3) := by decide +kernel
theorem dX2_turnFirstBadEdge_38 : decode cX2_turnFirstBadEdge 38 = .ok (.aload_n 0, 1) := by decide +kernel
theorem dX2_turnFirstBadEdge_39 : decode cX2_turnFirstBadEdge 39 = .ok (.iload_n 2, 1) := by decide +kernel
theorem dX2_turnFirstBadEdge_40 : decode cX2_turnFirstBadEdge 40 = .ok (.iload_n 3, 1) := by decide +kernel
theorem dX2_turnFirstBadEdge_41 : decode cX2_turnFirstBadEdge 41 = .ok (.invokevirtual 118, 3) := by decide +kernel
theorem dX2_turnFirstBadEdge_44 : decode cX2_turnFirstBadEdge 44 = .ok (.ifCond .eq 5, 3) := by decide +kernel
theorem dX2_turnFirstBadEdge_47 : decode cX2_turnFirstBadEdge 47 = .ok (.iconst 1, 1) := by decide +kernel
theorem dX2_turnFirstBadEdge_48 : decode cX2_turnFirstBadEdge 48 = .ok (.ireturn, 1) := by decide +kernel
theorem dX2_turnFirstBadEdge_49 : decode cX2_turnFirstBadEdge 49 = .ok (.iinc 3 1, 3) := by decide +kernel
theorem dX2_turnFirstBadEdge_52 : decode cX2_turnFirstBadEdge 52 = .ok (.goto (-28), 3) := by decide +kernel
theorem dX2_turnFirstBadEdge_55 : decode cX2_turnFirstBadEdge 55 = .ok (.iinc 1 1, 3) := by decide +kernel
theorem dX2_turnFirstBadEdge_58 : decode cX2_turnFirstBadEdge 58 = .ok (.goto (-56), 3) := by decide +kernel
theorem dX2_turnFirstBadEdge_61 : decode cX2_turnFirstBadEdge 61 = .ok (.iconst 0, 1) := by decide +kernel
theorem dX2_turnFirstBadEdge_62 : decode cX2_turnFirstBadEdge 62 = .ok (.ireturn, 1) := by decide +kernel
set_option maxRecDepth 20000 in
theorem ggX2_countCornerPoints_X1_thereCount : GoodIn wsX2_countCornerPoints wsX1_thereCount := goodIn_r _ [6, 7, 35, 36, 37, 38] (by decide +kernel) (by decide +kernel)
set_option maxRecDepth 20000 in
theorem gX2_countCornerPoints_X1_thereCount : GoodIn wsX2_countCornerPoints (wsV RX2 127 RX1 yX1_thereCount wsX1_thereCount) := goodIn_app (goodIn_of _ (by decide +kernel)) ggX2_countCornerPoints_X1_thereCount
set_option maxRecDepth 20000 in
theorem ggX2_countCornerPoints_X1_numberAt : GoodIn wsX2_countCornerPoints wsX1_numberAt := goodIn_r _ [11, 12, 35, 36, 37, 38] (by decide +kernel) (by decide +kernel)
set_option maxRecDepth 20000 in
theorem gX2_countCornerPoints_X1_numberAt : GoodIn wsX2_countCornerPoints (wsV RX2 131 RX1 yX1_numberAt wsX1_numberAt) := goodIn_app (goodIn_of _ (by decide +kernel)) ggX2_countCornerPoints_X1_numberAt
set_option maxRecDepth 20000 in
theorem ggX2_countCornerPoints_X1_cornerOf : GoodIn wsX2_countCornerPoints wsX1_cornerOf := goodIn_r _ [16, 17, 35, 36, 37, 38] (by decide +kernel) (by decide +kernel)
set_option maxRecDepth 20000 in
theorem gX2_countCornerPoints_X1_cornerOf : GoodIn wsX2_countCornerPoints (wsV RX2 107 RX1 yX1_cornerOf wsX1_cornerOf) := goodIn_app (goodIn_of _ (by decide +kernel)) ggX2_countCornerPoints_X1_cornerOf
set_option maxRecDepth 20000 in
theorem ggX2_countCornerPoints_X2_bitOf : GoodIn wsX2_countCornerPoints wsX2_bitOf := goodIn_r _ [21] (by decide +kernel) (by decide +kernel)
set_option maxRecDepth 20000 in
theorem gX2_countCornerPoints_X2_bitOf : GoodIn wsX2_countCornerPoints (va_wsS RX2 282 yX2_bitOf wsX2_bitOf) := goodIn_app (goodIn_of _ (by decide +kernel)) ggX2_countCornerPoints_X2_bitOf
set_option maxRecDepth 20000 in
theorem ggX2_countCornerPoints_J13_bitCount_95d88 : GoodIn wsX2_countCornerPoints wsJ13_bitCount_95d88 := goodIn_r _ [25, 26, 27, 28] (by decide +kernel) (by decide +kernel)
set_option maxRecDepth 20000 in
theorem gX2_countCornerPoints_J13_bitCount_95d88 : GoodIn wsX2_countCornerPoints (va_wsS RX2 285 yJ13_bitCount_95d88 wsJ13_bitCount_95d88) := goodIn_app (goodIn_of _ (by decide +kernel)) ggX2_countCornerPoints_J13_bitCount_95d88
theorem dX2_countCornerPoints_0 : decode cX2_countCornerPoints 0 = .ok (.lconst 0, 1) := by decide +kernel
theorem dX2_countCornerPoints_1 : decode cX2_countCornerPoints 1 = .ok (.lstore_n 1, 1) := by decide +kernel
theorem dX2_countCornerPoints_2 : decode cX2_countCornerPoints 2 = .ok (.iconst 0, 1) := by decide +kernel
theorem dX2_countCornerPoints_3 : decode cX2_countCornerPoints 3 = .ok (.istore_n 3, 1) := by decide +kernel
theorem dX2_countCornerPoints_4 : decode cX2_countCornerPoints 4 = .ok (.iload_n 3, 1) := by decide +kernel
theorem dX2_countCornerPoints_5 : decode cX2_countCornerPoints 5 = .ok (.aload_n 0, 1) := by decide +kernel
theorem dX2_countCornerPoints_6 : decode cX2_countCornerPoints 6 = .ok (.getfield 19, 3) := by decide +kernel
theorem dX2_countCornerPoints_9 : decode cX2_countCornerPoints 9 = .ok (.invokevirtual 127, 3) := by decide +kernel
theorem dX2_countCornerPoints_12 : decode cX2_countCornerPoints 12 = .ok (.if_icmp .ge 51, 3) := by decide +kernel
theorem dX2_countCornerPoints_15 : decode cX2_countCornerPoints 15 = .ok (.aload_n 0, 1) := by decide +kernel
theorem dX2_countCornerPoints_16 : decode cX2_countCornerPoints 16 = .ok (.getfield 19, 3) := by decide +kernel
theorem dX2_countCornerPoints_19 : decode cX2_countCornerPoints 19 = .ok (.iload_n 3, 1) := by decide +kernel
theorem dX2_countCornerPoints_20 : decode cX2_countCornerPoints 20 = .ok (.invokevirtual 131, 3) := by decide +kernel
theorem dX2_countCornerPoints_23 : decode cX2_countCornerPoints 23 = .ok (.istore 4, 2) := by decide +kernel
theorem dX2_countCornerPoints_25 : decode cX2_countCornerPoints 25 = .ok (.iconst 0, 1) := by decide +kernel
theorem dX2_countCornerPoints_26 : decode cX2_countCornerPoints 26 = .ok (.istore 5, 2) := by decide +kernel
theorem dX2_countCornerPoints_28 : decode cX2_countCornerPoints 28 = .ok (.iload 5, 2) := by decide +kernel
theorem dX2_countCornerPoints_30 : decode cX2_countCornerPoints 30 = .ok (.iconst 3, 1) := by decide +kernel
theorem dX2_countCornerPoints_31 : decode cX2_countCornerPoints 31 = .ok (.if_icmp .ge 26, 3) := by decide +kernel
theorem dX2_countCornerPoints_34 : decode cX2_countCornerPoints 34 = .ok (.lload_n 1, 1) := by decide +kernel
theorem dX2_countCornerPoints_35 : decode cX2_countCornerPoints 35 = .ok (.aload_n 0, 1) := by decide +kernel
theorem dX2_countCornerPoints_36 : decode cX2_countCornerPoints 36 = .ok (.getfield 19, 3) := by decide +kernel
theorem dX2_countCornerPoints_39 : decode cX2_countCornerPoints 39 = .ok (.iload 4, 2) := by decide +kernel
theorem dX2_countCornerPoints_41 : decode cX2_countCornerPoints 41 = .ok (.iload 5, 2) := by decide +kernel
theorem dX2_countCornerPoints_43 : decode cX2_countCornerPoints 43 = .ok (.invokevirtual 107, 3) := by decide +kernel
theorem dX2_countCornerPoints_46 : decode cX2_countCornerPoints 46 = .ok (.invokestatic 282, 3) := by decide +kernel
theorem dX2_countCornerPoints_49 : decode cX2_countCornerPoints 49 = .ok (.lor, 1) := by decide +kernel
theorem dX2_countCornerPoints_50 : decode cX2_countCornerPoints 50 = .ok (.lstore_n 1, 1) := by decide +kernel
theorem dX2_countCornerPoints_51 : decode cX2_countCornerPoints 51 = .ok (.iinc 5 1, 3) := by decide +kernel
theorem dX2_countCornerPoints_54 : decode cX2_countCornerPoints 54 = .ok (.goto (-26), 3) := by decide +kernel
theorem dX2_countCornerPoints_57 : decode cX2_countCornerPoints 57 = .ok (.iinc 3 1, 3) := by decide +kernel
theorem dX2_countCornerPoints_60 : decode cX2_countCornerPoints 60 = .ok (.goto (-56), 3) := by decide +kernel
theorem dX2_countCornerPoints_63 : decode cX2_countCornerPoints 63 = .ok (.lload_n 1, 1) := by decide +kernel
theorem dX2_countCornerPoints_64 : decode cX2_countCornerPoints 64 = .ok (.invokestatic 285, 3) := by decide +kernel
theorem dX2_countCornerPoints_67 : decode cX2_countCornerPoints 67 = .ok (.ireturn, 1) := by decide +kernel
set_option maxRecDepth 20000 in
theorem ggX2_countDifferentEdges_J7_fill_d0a16 : GoodIn wsX2_countDifferentEdges wsJ7_fill_d0a16 := goodIn_r _ [13] (by decide +kernel) (by decide +kernel)
set_option maxRecDepth 20000 in
theorem gX2_countDifferentEdges_J7_fill_d0a16 : GoodIn wsX2_countDifferentEdges (va_wsS RX2 290 yJ7_fill_d0a16 wsJ7_fill_d0a16) := goodIn_app (goodIn_of _ (by decide +kernel)) ggX2_countDifferentEdges_J7_fill_d0a16
set_option maxRecDepth 20000 in
theorem ggX2_countDifferentEdges_X1_thereCount : GoodIn wsX2_countDifferentEdges wsX1_thereCount := goodIn_r _ [18, 19, 47, 48, 49, 50] (by decide +kernel) (by decide +kernel)
set_option maxRecDepth 20000 in
theorem gX2_countDifferentEdges_X1_thereCount : GoodIn wsX2_countDifferentEdges (wsV RX2 127 RX1 yX1_thereCount wsX1_thereCount) := goodIn_app (goodIn_of _ (by decide +kernel)) ggX2_countDifferentEdges_X1_thereCount
set_option maxRecDepth 20000 in
theorem ggX2_countDifferentEdges_X1_numberAt : GoodIn wsX2_countDifferentEdges wsX1_numberAt := goodIn_r _ [23, 24, 47, 48, 49, 50] (by decide +kernel) (by decide +kernel)
set_option maxRecDepth 20000 in
theorem gX2_countDifferentEdges_X1_numberAt : GoodIn wsX2_countDifferentEdges (wsV RX2 131 RX1 yX1_numberAt wsX1_numberAt) := goodIn_app (goodIn_of _ (by decide +kernel)) ggX2_countDifferentEdges_X1_numberAt
set_option maxRecDepth 20000 in
theorem ggX2_countDifferentEdges_X1_cornerOf : GoodIn wsX2_countDifferentEdges wsX1_cornerOf := goodIn_r _ [28, 29, 47, 48, 49, 50] (by decide +kernel) (by decide +kernel)
set_option maxRecDepth 20000 in
theorem gX2_countDifferentEdges_X1_cornerOf : GoodIn wsX2_countDifferentEdges (wsV RX2 107 RX1 yX1_cornerOf wsX1_cornerOf) := goodIn_app (goodIn_of _ (by decide +kernel)) ggX2_countDifferentEdges_X1_cornerOf
set_option maxRecDepth 20000 in
theorem ggX2_countDifferentEdges_X2_bitOf : GoodIn wsX2_countDifferentEdges wsX2_bitOf := goodIn_r _ [33] (by decide +kernel) (by decide +kernel)
set_option maxRecDepth 20000 in
theorem gX2_countDifferentEdges_X2_bitOf : GoodIn wsX2_countDifferentEdges (va_wsS RX2 282 yX2_bitOf wsX2_bitOf) := goodIn_app (goodIn_of _ (by decide +kernel)) ggX2_countDifferentEdges_X2_bitOf
set_option maxRecDepth 20000 in
theorem ggX2_countDifferentEdges_J13_bitCount_95d88 : GoodIn wsX2_countDifferentEdges wsJ13_bitCount_95d88 := goodIn_r _ [37, 38, 39, 40] (by decide +kernel) (by decide +kernel)
set_option maxRecDepth 20000 in
theorem gX2_countDifferentEdges_J13_bitCount_95d88 : GoodIn wsX2_countDifferentEdges (va_wsS RX2 285 yJ13_bitCount_95d88 wsJ13_bitCount_95d88) := goodIn_app (goodIn_of _ (by decide +kernel)) ggX2_countDifferentEdges_J13_bitCount_95d88
theorem dX2_countDifferentEdges_0 : decode cX2_countDifferentEdges 0 = .ok (.aload_n 0, 1) := by decide +kernel
theorem dX2_countDifferentEdges_1 : decode cX2_countDifferentEdges 1 = .ok (.getfield 23, 3) := by decide +kernel
theorem dX2_countDifferentEdges_4 : decode cX2_countDifferentEdges 4 = .ok (.lconst 0, 1) := by decide +kernel
theorem dX2_countDifferentEdges_5 : decode cX2_countDifferentEdges 5 = .ok (.invokestatic 290, 3) := by decide +kernel
theorem dX2_countDifferentEdges_8 : decode cX2_countDifferentEdges 8 = .ok (.iconst 0, 1) := by decide +kernel
theorem dX2_countDifferentEdges_9 : decode cX2_countDifferentEdges 9 = .ok (.istore_n 1, 1) := by decide +kernel
theorem dX2_countDifferentEdges_10 : decode cX2_countDifferentEdges 10 = .ok (.iload_n 1, 1) := by decide +kernel
theorem dX2_countDifferentEdges_11 : decode cX2_countDifferentEdges 11 = .ok (.aload_n 0, 1) := by decide +kernel
theorem dX2_countDifferentEdges_12 : decode cX2_countDifferentEdges 12 = .ok (.getfield 19, 3) := by decide +kernel
theorem dX2_countDifferentEdges_15 : decode cX2_countDifferentEdges 15 = .ok (.invokevirtual 127, 3) := by decide +kernel
theorem dX2_countDifferentEdges_18 : decode cX2_countDifferentEdges 18 = .ok (.if_icmp .ge 80, 3) := by decide +kernel
theorem dX2_countDifferentEdges_21 : decode cX2_countDifferentEdges 21 = .ok (.aload_n 0, 1) := by decide +kernel
theorem dX2_countDifferentEdges_22 : decode cX2_countDifferentEdges 22 = .ok (.getfield 19, 3) := by decide +kernel
theorem dX2_countDifferentEdges_25 : decode cX2_countDifferentEdges 25 = .ok (.iload_n 1, 1) := by decide +kernel
theorem dX2_countDifferentEdges_26 : decode cX2_countDifferentEdges 26 = .ok (.invokevirtual 131, 3) := by decide +kernel
theorem dX2_countDifferentEdges_29 : decode cX2_countDifferentEdges 29 = .ok (.istore_n 2, 1) := by decide +kernel
theorem dX2_countDifferentEdges_30 : decode cX2_countDifferentEdges 30 = .ok (.iconst 0, 1) := by decide +kernel
theorem dX2_countDifferentEdges_31 : decode cX2_countDifferentEdges 31 = .ok (.istore_n 3, 1) := by decide +kernel
theorem dX2_countDifferentEdges_32 : decode cX2_countDifferentEdges 32 = .ok (.iload_n 3, 1) := by decide +kernel
theorem dX2_countDifferentEdges_33 : decode cX2_countDifferentEdges 33 = .ok (.iconst 3, 1) := by decide +kernel
theorem dX2_countDifferentEdges_34 : decode cX2_countDifferentEdges 34 = .ok (.if_icmp .ge 58, 3) := by decide +kernel
theorem dX2_countDifferentEdges_37 : decode cX2_countDifferentEdges 37 = .ok (.aload_n 0, 1) := by decide +kernel
theorem dX2_countDifferentEdges_38 : decode cX2_countDifferentEdges 38 = .ok (.getfield 19, 3) := by decide +kernel
theorem dX2_countDifferentEdges_41 : decode cX2_countDifferentEdges 41 = .ok (.iload_n 2, 1) := by decide +kernel
theorem dX2_countDifferentEdges_42 : decode cX2_countDifferentEdges 42 = .ok (.iload_n 3, 1) := by decide +kernel
theorem dX2_countDifferentEdges_43 : decode cX2_countDifferentEdges 43 = .ok (.invokevirtual 107, 3) := by decide +kernel
theorem dX2_countDifferentEdges_46 : decode cX2_countDifferentEdges 46 = .ok (.istore 4, 2) := by decide +kernel
theorem dX2_countDifferentEdges_48 : decode cX2_countDifferentEdges 48 = .ok (.aload_n 0, 1) := by decide +kernel
theorem dX2_countDifferentEdges_49 : decode cX2_countDifferentEdges 49 = .ok (.getfield 19, 3) := by decide +kernel
theorem dX2_countDifferentEdges_52 : decode cX2_countDifferentEdges 52 = .ok (.iload_n 2, 1) := by decide +kernel
theorem dX2_countDifferentEdges_53 : decode cX2_countDifferentEdges 53 = .ok (.iload_n 3, 1) := by decide +kernel
theorem dX2_countDifferentEdges_54 : decode cX2_countDifferentEdges 54 = .ok (.iconst 1, 1) := by decide +kernel
theorem dX2_countDifferentEdges_55 : decode cX2_countDifferentEdges 55 = .ok (.iadd, 1) := by decide +kernel
theorem dX2_countDifferentEdges_56 : decode cX2_countDifferentEdges 56 = .ok (.invokevirtual 107, 3) := by decide +kernel
theorem dX2_countDifferentEdges_59 : decode cX2_countDifferentEdges 59 = .ok (.istore 5, 2) := by decide +kernel
theorem dX2_countDifferentEdges_61 : decode cX2_countDifferentEdges 61 = .ok (.aload_n 0, 1) := by decide +kernel
theorem dX2_countDifferentEdges_62 : decode cX2_countDifferentEdges 62 = .ok (.getfield 23, 3) := by decide +kernel
theorem dX2_countDifferentEdges_65 : decode cX2_countDifferentEdges 65 = .ok (.iload 4, 2) := by decide +kernel
theorem dX2_countDifferentEdges_67 : decode cX2_countDifferentEdges 67 = .ok (.iload 5, 2) := by decide +kernel
theorem dX2_countDifferentEdges_69 : decode cX2_countDifferentEdges 69 = .ok (.invokestatic 247, 3) := by decide +kernel
theorem dX2_countDifferentEdges_72 : decode cX2_countDifferentEdges 72 = .ok (.dup2, 1) := by decide +kernel
theorem dX2_countDifferentEdges_73 : decode cX2_countDifferentEdges 73 = .ok (.laload, 1) := by decide +kernel
theorem dX2_countDifferentEdges_74 : decode cX2_countDifferentEdges 74 = .ok (.iload 4, 2) := by decide +kernel
theorem dX2_countDifferentEdges_76 : decode cX2_countDifferentEdges 76 = .ok (.iload 5, 2) := by decide +kernel
theorem dX2_countDifferentEdges_78 : decode cX2_countDifferentEdges 78 = .ok (.invokestatic 239, 3) := by decide +kernel
theorem dX2_countDifferentEdges_81 : decode cX2_countDifferentEdges 81 = .ok (.invokestatic 282, 3) := by decide +kernel
theorem dX2_countDifferentEdges_84 : decode cX2_countDifferentEdges 84 = .ok (.lor, 1) := by decide +kernel
theorem dX2_countDifferentEdges_85 : decode cX2_countDifferentEdges 85 = .ok (.lastore, 1) := by decide +kernel
theorem dX2_countDifferentEdges_86 : decode cX2_countDifferentEdges 86 = .ok (.iinc 3 1, 3) := by decide +kernel
theorem dX2_countDifferentEdges_89 : decode cX2_countDifferentEdges 89 = .ok (.goto (-57), 3) := by decide +kernel
theorem dX2_countDifferentEdges_92 : decode cX2_countDifferentEdges 92 = .ok (.iinc 1 1, 3) := by decide +kernel
theorem dX2_countDifferentEdges_95 : decode cX2_countDifferentEdges 95 = .ok (.goto (-85), 3) := by decide +kernel
theorem dX2_countDifferentEdges_98 : decode cX2_countDifferentEdges 98 = .ok (.iconst 0, 1) := by decide +kernel
theorem dX2_countDifferentEdges_99 : decode cX2_countDifferentEdges 99 = .ok (.istore_n 1, 1) := by decide +kernel
theorem dX2_countDifferentEdges_100 : decode cX2_countDifferentEdges 100 = .ok (.iconst 0, 1) := by decide +kernel
theorem dX2_countDifferentEdges_101 : decode cX2_countDifferentEdges 101 = .ok (.istore_n 2, 1) := by decide +kernel
theorem dX2_countDifferentEdges_102 : decode cX2_countDifferentEdges 102 = .ok (.iload_n 2, 1) := by decide +kernel
theorem dX2_countDifferentEdges_103 : decode cX2_countDifferentEdges 103 = .ok (.bipush 60, 2) := by decide +kernel
theorem dX2_countDifferentEdges_105 : decode cX2_countDifferentEdges 105 = .ok (.if_icmp .ge 21, 3) := by decide +kernel
theorem dX2_countDifferentEdges_108 : decode cX2_countDifferentEdges 108 = .ok (.iload_n 1, 1) := by decide +kernel
theorem dX2_countDifferentEdges_109 : decode cX2_countDifferentEdges 109 = .ok (.aload_n 0, 1) := by decide +kernel
theorem dX2_countDifferentEdges_110 : decode cX2_countDifferentEdges 110 = .ok (.getfield 23, 3) := by decide +kernel
theorem dX2_countDifferentEdges_113 : decode cX2_countDifferentEdges 113 = .ok (.iload_n 2, 1) := by decide +kernel
theorem dX2_countDifferentEdges_114 : decode cX2_countDifferentEdges 114 = .ok (.laload, 1) := by decide +kernel
theorem dX2_countDifferentEdges_115 : decode cX2_countDifferentEdges 115 = .ok (.invokestatic 285, 3) := by decide +kernel
theorem dX2_countDifferentEdges_118 : decode cX2_countDifferentEdges 118 = .ok (.iadd, 1) := by decide +kernel
theorem dX2_countDifferentEdges_119 : decode cX2_countDifferentEdges 119 = .ok (.istore_n 1, 1) := by decide +kernel
theorem dX2_countDifferentEdges_120 : decode cX2_countDifferentEdges 120 = .ok (.iinc 2 1, 3) := by decide +kernel
theorem dX2_countDifferentEdges_123 : decode cX2_countDifferentEdges 123 = .ok (.goto (-21), 3) := by decide +kernel
theorem dX2_countDifferentEdges_126 : decode cX2_countDifferentEdges 126 = .ok (.iload_n 1, 1) := by decide +kernel
theorem dX2_countDifferentEdges_127 : decode cX2_countDifferentEdges 127 = .ok (.ireturn, 1) := by decide +kernel
theorem dX2_bitOf_0 : decode cX2_bitOf 0 = .ok (.lconst 1, 1) := by decide +kernel
theorem dX2_bitOf_1 : decode cX2_bitOf 1 = .ok (.iload_n 0, 1) := by decide +kernel
theorem dX2_bitOf_2 : decode cX2_bitOf 2 = .ok (.lshl, 1) := by decide +kernel
theorem dX2_bitOf_3 : decode cX2_bitOf 3 = .ok (.lreturn, 1) := by decide +kernel
set_option maxRecDepth 20000 in
theorem ggX2_countLonelyEdges_X1_thereCount : GoodIn wsX2_countLonelyEdges wsX1_thereCount := goodIn_r _ [6, 7, 32, 33, 34, 35] (by decide +kernel) (by decide +kernel)
set_option maxRecDepth 20000 in
theorem gX2_countLonelyEdges_X1_thereCount : GoodIn wsX2_countLonelyEdges (wsV RX2 127 RX1 yX1_thereCount wsX1_thereCount) := goodIn_app (goodIn_of _ (by decide +kernel)) ggX2_countLonelyEdges_X1_thereCount
set_option maxRecDepth 20000 in
theorem ggX2_countLonelyEdges_X1_numberAt : GoodIn wsX2_countLonelyEdges wsX1_numberAt := goodIn_r _ [11, 12, 32, 33, 34, 35] (by decide +kernel) (by decide +kernel)
set_option maxRecDepth 20000 in
theorem gX2_countLonelyEdges_X1_numberAt : GoodIn wsX2_countLonelyEdges (wsV RX2 131 RX1 yX1_numberAt wsX1_numberAt) := goodIn_app (goodIn_of _ (by decide +kernel)) ggX2_countLonelyEdges_X1_numberAt
set_option maxRecDepth 20000 in
theorem ggX2_countLonelyEdges_X1_neighbour : GoodIn wsX2_countLonelyEdges wsX1_neighbour := goodIn_r _ [16, 7, 12, 17, 18, 19, 5, 20, 21, 22, 23, 24, 25, 32, 33, 34, 35] (by decide +kernel) (by decide +kernel)
set_option maxRecDepth 20000 in
theorem gX2_countLonelyEdges_X1_neighbour : GoodIn wsX2_countLonelyEdges (wsV RX2 164 RX1 yX1_neighbour wsX1_neighbour) := goodIn_app (goodIn_of _ (by decide +kernel)) ggX2_countLonelyEdges_X1_neighbour
theorem dX2_countLonelyEdges_0 : decode cX2_countLonelyEdges 0 = .ok (.iconst 0, 1) := by decide +kernel
theorem dX2_countLonelyEdges_1 : decode cX2_countLonelyEdges 1 = .ok (.istore_n 1, 1) := by decide +kernel
theorem dX2_countLonelyEdges_2 : decode cX2_countLonelyEdges 2 = .ok (.iconst 0, 1) := by decide +kernel
theorem dX2_countLonelyEdges_3 : decode cX2_countLonelyEdges 3 = .ok (.istore_n 2, 1) := by decide +kernel
theorem dX2_countLonelyEdges_4 : decode cX2_countLonelyEdges 4 = .ok (.iload_n 2, 1) := by decide +kernel
theorem dX2_countLonelyEdges_5 : decode cX2_countLonelyEdges 5 = .ok (.aload_n 0, 1) := by decide +kernel
theorem dX2_countLonelyEdges_6 : decode cX2_countLonelyEdges 6 = .ok (.getfield 19, 3) := by decide +kernel
theorem dX2_countLonelyEdges_9 : decode cX2_countLonelyEdges 9 = .ok (.invokevirtual 127, 3) := by decide +kernel
theorem dX2_countLonelyEdges_12 : decode cX2_countLonelyEdges 12 = .ok (.if_icmp .ge 45, 3) := by decide +kernel
theorem dX2_countLonelyEdges_15 : decode cX2_countLonelyEdges 15 = .ok (.iconst 0, 1) := by decide +kernel
theorem dX2_countLonelyEdges_16 : decode cX2_countLonelyEdges 16 = .ok (.istore_n 3, 1) := by decide +kernel
theorem dX2_countLonelyEdges_17 : decode cX2_countLonelyEdges 17 = .ok (.iload_n 3, 1) := by decide +kernel
theorem dX2_countLonelyEdges_18 : decode cX2_countLonelyEdges 18 = .ok (.iconst 3, 1) := by decide +kernel
theorem dX2_countLonelyEdges_19 : decode cX2_countLonelyEdges 19 = .ok (.if_icmp .ge 32, 3) := by decide +kernel
theorem dX2_countLonelyEdges_22 : decode cX2_countLonelyEdges 22 = .ok (.aload_n 0, 1) := by decide +kernel
theorem dX2_countLonelyEdges_23 : decode cX2_countLonelyEdges 23 = .ok (.getfield 19, 3) := by decide +kernel
theorem dX2_countLonelyEdges_26 : decode cX2_countLonelyEdges 26 = .ok (.aload_n 0, 1) := by decide +kernel
theorem dX2_countLonelyEdges_27 : decode cX2_countLonelyEdges 27 = .ok (.getfield 19, 3) := by decide +kernel
theorem dX2_countLonelyEdges_30 : decode cX2_countLonelyEdges 30 = .ok (.iload_n 2, 1) := by decide +kernel
theorem dX2_countLonelyEdges_31 : decode cX2_countLonelyEdges 31 = .ok (.invokevirtual 131, 3) := by decide +kernel
theorem dX2_countLonelyEdges_34 : decode cX2_countLonelyEdges 34 = .ok (.iload_n 3, 1) := by decide +kernel
theorem dX2_countLonelyEdges_35 : decode cX2_countLonelyEdges 35 = .ok (.invokevirtual 164, 3) := by decide +kernel
theorem dX2_countLonelyEdges_38 : decode cX2_countLonelyEdges 38 = .ok (.iconst (-1), 1) := by decide +kernel
theorem dX2_countLonelyEdges_39 : decode cX2_countLonelyEdges 39 = .ok (.if_icmp .ne 6, 3) := by decide +kernel
theorem dX2_countLonelyEdges_42 : decode cX2_countLonelyEdges 42 = .ok (.iinc 1 1, 3) := by decide +kernel
theorem dX2_countLonelyEdges_45 : decode cX2_countLonelyEdges 45 = .ok (.iinc 3 1, 3) := by decide +kernel
theorem dX2_countLonelyEdges_48 : decode cX2_countLonelyEdges 48 = .ok (.goto (-31), 3) := by decide +kernel
theorem dX2_countLonelyEdges_51 : decode cX2_countLonelyEdges 51 = .ok (.iinc 2 1, 3) := by decide +kernel
theorem dX2_countLonelyEdges_54 : decode cX2_countLonelyEdges 54 = .ok (.goto (-50), 3) := by decide +kernel
theorem dX2_countLonelyEdges_57 : decode cX2_countLonelyEdges 57 = .ok (.iload_n 1, 1) := by decide +kernel
theorem dX2_countLonelyEdges_58 : decode cX2_countLonelyEdges 58 = .ok (.ireturn, 1) := by decide +kernel
set_option maxRecDepth 20000 in
theorem ggX2_countBadEdges_X1_thereCount : GoodIn wsX2_countBadEdges wsX1_thereCount := goodIn_r _ [6, 7, 50, 51, 52, 53] (by decide +kernel) (by decide +kernel)
set_option maxRecDepth 20000 in
theorem gX2_countBadEdges_X1_thereCount : GoodIn wsX2_countBadEdges (wsV RX2 127 RX1 yX1_thereCount wsX1_thereCount) := goodIn_app (goodIn_of _ (by decide +kernel)) ggX2_countBadEdges_X1_thereCount
set_option maxRecDepth 20000 in
theorem ggX2_countBadEdges_X1_numberAt : GoodIn wsX2_countBadEdges wsX1_numberAt := goodIn_r _ [11, 12, 50, 51, 52, 53] (by decide +kernel) (by decide +kernel)
set_option maxRecDepth 20000 in
theorem gX2_countBadEdges_X1_numberAt : GoodIn wsX2_countBadEdges (wsV RX2 131 RX1 yX1_numberAt wsX1_numberAt) := goodIn_app (goodIn_of _ (by decide +kernel)) ggX2_countBadEdges_X1_numberAt
set_option maxRecDepth 20000 in
theorem ggX2_countBadEdges_X2_isGoodEdge : GoodIn wsX2_countBadEdges wsX2_isGoodEdge := goodIn_r _ [17, 1, 18, 19, 20, 21, 5, 22, 7, 12, 23, 24, 25, 26, 27, 28, 29, 30, 31, 32, 33, 34, 35, 36, 37, 38, 39, 40, 41, 42, 43, 44, 45, 46, 47, 48, 49, 50, 51, 52, 53, 54, 55, 56] (by decide +kernel) (by decide +kernel)
set_option maxRecDepth 20000 in
theorem gX2_countBadEdges_X2_isGoodEdge : GoodIn wsX2_countBadEdges (wsV RX2 167 RX2 yX2_isGoodEdge wsX2_isGoodEdge) := goodIn_app (goodIn_of _ (by decide +kernel)) ggX2_countBadEdges_X2_isGoodEdge
theorem dX2_countBadEdges_0 : decode cX2_countBadEdges 0 = .ok (.iconst 0, 1) := by decide +kernel
theorem dX2_countBadEdges_1 : decode cX2_countBadEdges 1 = .ok (.istore_n 1, 1) := by decide +kernel
theorem dX2_countBadEdges_2 : decode cX2_countBadEdges 2 = .ok (.iconst 0, 1) := by decide +kernel
theorem dX2_countBadEdges_3 : decode cX2_countBadEdges 3 = .ok (.istore_n 2, 1) := by decide +kernel
theorem dX2_countBadEdges_4 : decode cX2_countBadEdges 4 = .ok (.iload_n 2, 1) := by decide +kernel
theorem dX2_countBadEdges_5 : decode cX2_countBadEdges 5 = .ok (.aload_n 0, 1) := by decide +kernel
theorem dX2_countBadEdges_6 : decode cX2_countBadEdges 6 = .ok (.getfield 19, 3) := by decide +kernel
theorem dX2_countBadEdges_9 : decode cX2_countBadEdges 9 = .ok (.invokevirtual 127, 3) := by decide +kernel
theorem dX2_countBadEdges_12 : decode cX2_countBadEdges 12 = .ok (.if_icmp .ge 41, 3) := by decide +kernel
theorem dX2_countBadEdges_15 : decode cX2_countBadEdges 15 = .ok (.iconst 0, 1) := by decide +kernel
theorem dX2_countBadEdges_16 : decode cX2_countBadEdges 16 = .ok (.istore_n 3, 1) := by decide +kernel
theorem dX2_countBadEdges_17 : decode cX2_countBadEdges 17 = .ok (.iload_n 3, 1) := by decide +kernel
theorem dX2_countBadEdges_18 : decode cX2_countBadEdges 18 = .ok (.iconst 3, 1) := by decide +kernel
theorem dX2_countBadEdges_19 : decode cX2_countBadEdges 19 = .ok (.if_icmp .ge 28, 3) := by decide +kernel
theorem dX2_countBadEdges_22 : decode cX2_countBadEdges 22 = .ok (.aload_n 0, 1) := by decide +kernel
theorem dX2_countBadEdges_23 : decode cX2_countBadEdges 23 = .ok (.aload_n 0, 1) := by decide +kernel
theorem dX2_countBadEdges_24 : decode cX2_countBadEdges 24 = .ok (.getfield 19, 3) := by decide +kernel
theorem dX2_countBadEdges_27 : decode cX2_countBadEdges 27 = .ok (.iload_n 2, 1) := by decide +kernel
theorem dX2_countBadEdges_28 : decode cX2_countBadEdges 28 = .ok (.invokevirtual 131, 3) := by decide +kernel
theorem dX2_countBadEdges_31 : decode cX2_countBadEdges 31 = .ok (.iload_n 3, 1) := by decide +kernel
theorem dX2_countBadEdges_32 : decode cX2_countBadEdges 32 = .ok (.invokevirtual 167, 3) := by decide +kernel
theorem dX2_countBadEdges_35 : decode cX2_countBadEdges 35 = .ok (.ifCond .ne 6, 3) := by decide +kernel
theorem dX2_countBadEdges_38 : decode cX2_countBadEdges 38 = .ok (.iinc 1 1, 3) := by decide +kernel
theorem dX2_countBadEdges_41 : decode cX2_countBadEdges 41 = .ok (.iinc 3 1, 3) := by decide +kernel
theorem dX2_countBadEdges_44 : decode cX2_countBadEdges 44 = .ok (.goto (-27), 3) := by decide +kernel
theorem dX2_countBadEdges_47 : decode cX2_countBadEdges 47 = .ok (.iinc 2 1, 3) := by decide +kernel
theorem dX2_countBadEdges_50 : decode cX2_countBadEdges 50 = .ok (.goto (-46), 3) := by decide +kernel
theorem dX2_countBadEdges_53 : decode cX2_countBadEdges 53 = .ok (.iload_n 1, 1) := by decide +kernel
theorem dX2_countBadEdges_54 : decode cX2_countBadEdges 54 = .ok (.ireturn, 1) := by decide +kernel
set_option maxRecDepth 20000 in
theorem ggX2_countPieces_X1_thereCount : GoodIn wsX2_countPieces wsX1_thereCount := goodIn_r _ [7, 8, 38, 39, 40, 41] (by decide +kernel) (by decide +kernel)
set_option maxRecDepth 20000 in
theorem gX2_countPieces_X1_thereCount : GoodIn wsX2_countPieces (wsV RX2 127 RX1 yX1_thereCount wsX1_thereCount) := goodIn_app (goodIn_of _ (by decide +kernel)) ggX2_countPieces_X1_thereCount
set_option maxRecDepth 20000 in
theorem ggX2_countPieces_X1_numberAt : GoodIn wsX2_countPieces wsX1_numberAt := goodIn_r _ [12, 13, 38, 39, 40, 41] (by decide +kernel) (by decide +kernel)
set_option maxRecDepth 20000 in
theorem gX2_countPieces_X1_numberAt : GoodIn wsX2_countPieces (wsV RX2 131 RX1 yX1_numberAt wsX1_numberAt) := goodIn_app (goodIn_of _ (by decide +kernel)) ggX2_countPieces_X1_numberAt
set_option maxRecDepth 20000 in
theorem ggX2_countPieces_X1_neighbour : GoodIn wsX2_countPieces wsX1_neighbour := goodIn_r _ [17, 8, 13, 18, 19, 20, 6, 21, 22, 23, 24, 25, 26, 38, 39, 40, 41] (by decide +kernel) (by decide +kernel)
set_option maxRecDepth 20000 in
theorem gX2_countPieces_X1_neighbour : GoodIn wsX2_countPieces (wsV RX2 164 RX1 yX1_neighbour wsX1_neighbour) := goodIn_app (goodIn_of _ (by decide +kernel)) ggX2_countPieces_X1_neighbour
set_option maxRecDepth 20000 in
theorem ggX2_countPieces_X2_renamePiece : GoodIn wsX2_countPieces wsX2_renamePiece := goodIn_r _ [31, 1, 2, 3, 4, 5, 6, 7, 8, 9, 10, 11, 12, 13, 32, 33, 34, 35, 36, 37, 38, 39, 40, 41] (by decide +kernel) (by decide +kernel)
set_option maxRecDepth 20000 in
theorem gX2_countPieces_X2_renamePiece : GoodIn wsX2_countPieces (wsV RX2 296 RX2 yX2_renamePiece wsX2_renamePiece) := goodIn_app (goodIn_of _ (by decide +kernel)) ggX2_countPieces_X2_renamePiece
theorem dX2_countPieces_0 : decode cX2_countPieces 0 = .ok (.iconst 0, 1) := by decide +kernel
theorem dX2_countPieces_1 : decode cX2_countPieces 1 = .ok (.istore_n 1, 1) := by decide +kernel
theorem dX2_countPieces_2 : decode cX2_countPieces 2 = .ok (.iload_n 1, 1) := by decide +kernel
theorem dX2_countPieces_3 : decode cX2_countPieces 3 = .ok (.aload_n 0, 1) := by decide +kernel
theorem dX2_countPieces_4 : decode cX2_countPieces 4 = .ok (.getfield 19, 3) := by decide +kernel
theorem dX2_countPieces_7 : decode cX2_countPieces 7 = .ok (.invokevirtual 127, 3) := by decide +kernel
theorem dX2_countPieces_10 : decode cX2_countPieces 10 = .ok (.if_icmp .ge 25, 3) := by decide +kernel
theorem dX2_countPieces_13 : decode cX2_countPieces 13 = .ok (.aload_n 0, 1) := by decide +kernel
theorem dX2_countPieces_14 : decode cX2_countPieces 14 = .ok (.getfield 19, 3) := by decide +kernel
theorem dX2_countPieces_17 : decode cX2_countPieces 17 = .ok (.iload_n 1, 1) := by decide +kernel
theorem dX2_countPieces_18 : decode cX2_countPieces 18 = .ok (.invokevirtual 131, 3) := by decide +kernel
theorem dX2_countPieces_21 : decode cX2_countPieces 21 = .ok (.istore_n 2, 1) := by decide +kernel
theorem dX2_countPieces_22 : decode cX2_countPieces 22 = .ok (.aload_n 0, 1) := by decide +kernel
theorem dX2_countPieces_23 : decode cX2_countPieces 23 = .ok (.getfield 27, 3) := by decide +kernel
theorem dX2_countPieces_26 : decode cX2_countPieces 26 = .ok (.iload_n 2, 1) := by decide +kernel
theorem dX2_countPieces_27 : decode cX2_countPieces 27 = .ok (.iload_n 2, 1) := by decide +kernel
theorem dX2_countPieces_28 : decode cX2_countPieces 28 = .ok (.iastore, 1) := by decide +kernel
theorem dX2_countPieces_29 : decode cX2_countPieces 29 = .ok (.iinc 1 1, 3) := by decide +kernel
theorem dX2_countPieces_32 : decode cX2_countPieces 32 = .ok (.goto (-30), 3) := by decide +kernel
theorem dX2_countPieces_35 : decode cX2_countPieces 35 = .ok (.aload_n 0, 1) := by decide +kernel
theorem dX2_countPieces_36 : decode cX2_countPieces 36 = .ok (.getfield 19, 3) := by decide +kernel
theorem dX2_countPieces_39 : decode cX2_countPieces 39 = .ok (.invokevirtual 127, 3) := by decide +kernel
theorem dX2_countPieces_42 : decode cX2_countPieces 42 = .ok (.istore_n 1, 1) := by decide +kernel
theorem dX2_countPieces_43 : decode cX2_countPieces 43 = .ok (.iconst 0, 1) := by decide +kernel
theorem dX2_countPieces_44 : decode cX2_countPieces 44 = .ok (.istore_n 2, 1) := by decide +kernel
theorem dX2_countPieces_45 : decode cX2_countPieces 45 = .ok (.iload_n 2, 1) := by decide +kernel
theorem dX2_countPieces_46 : decode cX2_countPieces 46 = .ok (.aload_n 0, 1) := by decide +kernel
theorem dX2_countPieces_47 : decode cX2_countPieces 47 = .ok (.getfield 19, 3) := by decide +kernel
theorem dX2_countPieces_50 : decode cX2_countPieces 50 = .ok (.invokevirtual 127, 3) := by decide +kernel
theorem dX2_countPieces_53 : decode cX2_countPieces 53 = .ok (.if_icmp .ge 87, 3) := by decide +kernel
theorem dX2_countPieces_56 : decode cX2_countPieces 56 = .ok (.aload_n 0, 1) := by decide +kernel
theorem dX2_countPieces_57 : decode cX2_countPieces 57 = .ok (.getfield 19, 3) := by decide +kernel
theorem dX2_countPieces_60 : decode cX2_countPieces 60 = .ok (.iload_n 2, 1) := by decide +kernel
theorem dX2_countPieces_61 : decode cX2_countPieces 61 = .ok (.invokevirtual 131, 3) := by decide +kernel
theorem dX2_countPieces_64 : decode cX2_countPieces 64 = .ok (.istore_n 3, 1) := by decide +kernel
theorem dX2_countPieces_65 : decode cX2_countPieces 65 = .ok (.iconst 0, 1) := by decide +kernel
theorem dX2_countPieces_66 : decode cX2_countPieces 66 = .ok (.istore 4, 2) := by decide +kernel
theorem dX2_countPieces_68 : decode cX2_countPieces 68 = .ok (.iload 4, 2) := by decide +kernel
theorem dX2_countPieces_70 : decode cX2_countPieces 70 = .ok (.iconst 3, 1) := by decide +kernel
theorem dX2_countPieces_71 : decode cX2_countPieces 71 = .ok (.if_icmp .ge 63, 3) := by decide +kernel
theorem dX2_countPieces_74 : decode cX2_countPieces 74 = .ok (.aload_n 0, 1) := by decide +kernel
theorem dX2_countPieces_75 : decode cX2_countPieces 75 = .ok (.getfield 19, 3) := by decide +kernel
theorem dX2_countPieces_78 : decode cX2_countPieces 78 = .ok (.iload_n 3, 1) := by decide +kernel
theorem dX2_countPieces_79 : decode cX2_countPieces 79 = .ok (.iload 4, 2) := by decide +kernel
theorem dX2_countPieces_81 : decode cX2_countPieces 81 = .ok (.invokevirtual 164, 3) := by decide +kernel
theorem dX2_countPieces_84 : decode cX2_countPieces 84 = .ok (.istore 5, 2) := by decide +kernel
theorem dX2_countPieces_86 : decode cX2_countPieces 86 = .ok (.iload 5, 2) := by decide +kernel
theorem dX2_countPieces_88 : decode cX2_countPieces 88 = .ok (.iconst (-1), 1) := by decide +kernel
theorem dX2_countPieces_89 : decode cX2_countPieces 89 = .ok (.if_icmp .eq 39, 3) := by decide +kernel
theorem dX2_countPieces_92 : decode cX2_countPieces 92 = .ok (.aload_n 0, 1) := by decide +kernel
theorem dX2_countPieces_93 : decode cX2_countPieces 93 = .ok (.getfield 27, 3) := by decide +kernel
theorem dX2_countPieces_96 : decode cX2_countPieces 96 = .ok (.iload 5, 2) := by decide +kernel
theorem dX2_countPieces_98 : decode cX2_countPieces 98 = .ok (.iaload, 1) := by decide +kernel
theorem dX2_countPieces_99 : decode cX2_countPieces 99 = .ok (.aload_n 0, 1) := by decide +kernel
theorem dX2_countPieces_100 : decode cX2_countPieces 100 = .ok (.getfield 27, 3) := by decide +kernel
theorem dX2_countPieces_103 : decode cX2_countPieces 103 = .ok (.iload_n 3, 1) := by decide +kernel
theorem dX2_countPieces_104 : decode cX2_countPieces 104 = .ok (.iaload, 1) := by decide +kernel
theorem dX2_countPieces_105 : decode cX2_countPieces 105 = .ok (.if_icmp .eq 23, 3) := by decide +kernel
theorem dX2_countPieces_108 : decode cX2_countPieces 108 = .ok (.aload_n 0, 1) := by decide +kernel
theorem dX2_countPieces_109 : decode cX2_countPieces 109 = .ok (.aload_n 0, 1) := by decide +kernel
theorem dX2_countPieces_110 : decode cX2_countPieces 110 = .ok (.getfield 27, 3) := by decide +kernel
theorem dX2_countPieces_113 : decode cX2_countPieces 113 = .ok (.iload 5, 2) := by decide +kernel
theorem dX2_countPieces_115 : decode cX2_countPieces 115 = .ok (.iaload, 1) := by decide +kernel
theorem dX2_countPieces_116 : decode cX2_countPieces 116 = .ok (.aload_n 0, 1) := by decide +kernel
theorem dX2_countPieces_117 : decode cX2_countPieces 117 = .ok (.getfield 27, 3) := by decide +kernel
theorem dX2_countPieces_120 : decode cX2_countPieces 120 = .ok (.iload_n 3, 1) := by decide +kernel
theorem dX2_countPieces_121 : decode cX2_countPieces 121 = .ok (.iaload, 1) := by decide +kernel
theorem dX2_countPieces_122 : decode cX2_countPieces 122 = .ok (.invokevirtual 296, 3) := by decide +kernel
theorem dX2_countPieces_125 : decode cX2_countPieces 125 = .ok (.iinc 1 (-1), 3) := by decide +kernel
theorem dX2_countPieces_128 : decode cX2_countPieces 128 = .ok (.iinc 4 1, 3) := by decide +kernel
theorem dX2_countPieces_131 : decode cX2_countPieces 131 = .ok (.goto (-63), 3) := by decide +kernel
theorem dX2_countPieces_134 : decode cX2_countPieces 134 = .ok (.iinc 2 1, 3) := by decide +kernel
theorem dX2_countPieces_137 : decode cX2_countPieces 137 = .ok (.goto (-92), 3) := by decide +kernel
theorem dX2_countPieces_140 : decode cX2_countPieces 140 = .ok (.iload_n 1, 1) := by decide +kernel
theorem dX2_countPieces_141 : decode cX2_countPieces 141 = .ok (.ireturn, 1) := by decide +kernel
set_option maxRecDepth 20000 in
theorem ggX2_renamePiece_X1_thereCount : GoodIn wsX2_renamePiece wsX1_thereCount := goodIn_r _ [7, 8, 20, 21, 22, 23] (by decide +kernel) (by decide +kernel)
set_option maxRecDepth 20000 in
theorem gX2_renamePiece_X1_thereCount : GoodIn wsX2_renamePiece (wsV RX2 127 RX1 yX1_thereCount wsX1_thereCount) := goodIn_app (goodIn_of _ (by decide +kernel)) ggX2_renamePiece_X1_thereCount
set_option maxRecDepth 20000 in
theorem ggX2_renamePiece_X1_numberAt : GoodIn wsX2_renamePiece wsX1_numberAt := goodIn_r _ [12, 13, 20, 21, 22, 23] (by decide +kernel) (by decide +kernel)
set_option maxRecDepth 20000 in
theorem gX2_renamePiece_X1_numberAt : GoodIn wsX2_renamePiece (wsV RX2 131 RX1 yX1_numberAt wsX1_numberAt) := goodIn_app (goodIn_of _ (by decide +kernel)) ggX2_renamePiece_X1_numberAt
theorem dX2_renamePiece_0 : decode cX2_renamePiece 0 = .ok (.iconst 0, 1) := by decide +kernel
theorem dX2_renamePiece_1 : decode cX2_renamePiece 1 = .ok (.istore_n 3, 1) := by decide +kernel
theorem dX2_renamePiece_2 : decode cX2_renamePiece 2 = .ok (.iload_n 3, 1) := by decide +kernel
theorem dX2_renamePiece_3 : decode cX2_renamePiece 3 = .ok (.aload_n 0, 1) := by decide +kernel
theorem dX2_renamePiece_4 : decode cX2_renamePiece 4 = .ok (.getfield 19, 3) := by decide +kernel
theorem dX2_renamePiece_7 : decode cX2_renamePiece 7 = .ok (.invokevirtual 127, 3) := by decide +kernel
theorem dX2_renamePiece_10 : decode cX2_renamePiece 10 = .ok (.if_icmp .ge 38, 3) := by decide +kernel
theorem dX2_renamePiece_13 : decode cX2_renamePiece 13 = .ok (.aload_n 0, 1) := by decide +kernel
theorem dX2_renamePiece_14 : decode cX2_renamePiece 14 = .ok (.getfield 19, 3) := by decide +kernel
theorem dX2_renamePiece_17 : decode cX2_renamePiece 17 = .ok (.iload_n 3, 1) := by decide +kernel
theorem dX2_renamePiece_18 : decode cX2_renamePiece 18 = .ok (.invokevirtual 131, 3) := by decide +kernel
theorem dX2_renamePiece_21 : decode cX2_renamePiece 21 = .ok (.istore 4, 2) := by decide +kernel
theorem dX2_renamePiece_23 : decode cX2_renamePiece 23 = .ok (.aload_n 0, 1) := by decide +kernel
theorem dX2_renamePiece_24 : decode cX2_renamePiece 24 = .ok (.getfield 27, 3) := by decide +kernel
theorem dX2_renamePiece_27 : decode cX2_renamePiece 27 = .ok (.iload 4, 2) := by decide +kernel
theorem dX2_renamePiece_29 : decode cX2_renamePiece 29 = .ok (.iaload, 1) := by decide +kernel
theorem dX2_renamePiece_30 : decode cX2_renamePiece 30 = .ok (.iload_n 1, 1) := by decide +kernel
theorem dX2_renamePiece_31 : decode cX2_renamePiece 31 = .ok (.if_icmp .ne 11, 3) := by decide +kernel
theorem dX2_renamePiece_34 : decode cX2_renamePiece 34 = .ok (.aload_n 0, 1) := by decide +kernel
theorem dX2_renamePiece_35 : decode cX2_renamePiece 35 = .ok (.getfield 27, 3) := by decide +kernel
theorem dX2_renamePiece_38 : decode cX2_renamePiece 38 = .ok (.iload 4, 2) := by decide +kernel
theorem dX2_renamePiece_40 : decode cX2_renamePiece 40 = .ok (.iload_n 2, 1) := by decide +kernel
theorem dX2_renamePiece_41 : decode cX2_renamePiece 41 = .ok (.iastore, 1) := by decide +kernel
theorem dX2_renamePiece_42 : decode cX2_renamePiece 42 = .ok (.iinc 3 1, 3) := by decide +kernel
theorem dX2_renamePiece_45 : decode cX2_renamePiece 45 = .ok (.goto (-43), 3) := by decide +kernel
theorem dX2_renamePiece_48 : decode cX2_renamePiece 48 = .ok (.return_, 1) := by decide +kernel
end
section
/-! MY OWN ROWS: numbers, re-naming of tops, read-only methods and their calls -/
def iI (x : Int) : Int32 := Int32.ofInt x
def lI (x : Int) : Int64 := Int64.ofInt x
def bI (b : Bool) : Int32 := if b then 1 else 0
theorem nI_z (a : Nat) : nI a = iI (a : Int) := (Int32.ofInt_eq_ofNat).symm
theorem iI_add (a b : Int) : iI a + iI b = iI (a + b) := (Int32.ofInt_add a b).symm
theorem iI_sub (a b : Int) : iI a - iI b = iI (a - b) := (Int32.ofInt_sub a b).symm
theorem iI_mul (a b : Int) : iI a * iI b = iI (a * b) := (Int32.ofInt_mul a b).symm
theorem nn_add (a b : Nat) : nI a + nI b = nI (a + b) := nI_add a b
theorem nn_mul (a b : Nat) : nI a * nI b = nI (a * b) := pk_mul a b
theorem nn_sub (a b : Nat) : nI a - nI b = iI ((a : Int) - (b : Int)) := by rw [nI_z, nI_z, iI_sub]
theorem nz_add (a : Nat) (b : Int) : nI a + iI b = iI ((a : Int) + b) := by rw [nI_z, iI_add]
theorem zn_add (a : Int) (b : Nat) : iI a + nI b = iI (a + (b : Int)) := by rw [nI_z, iI_add]
theorem zz_add (a b : Int) : iI a + iI b = iI (a + b) := iI_add a b
theorem nz_sub (a : Nat) (b : Int) : nI a - iI b = iI ((a : Int) - b) := by rw [nI_z, iI_sub]
theorem zn_sub (a : Int) (b : Nat) : iI a - nI b = iI (a - (b : Int)) := by rw [nI_z, iI_sub]
theorem zz_sub (a b : Int) : iI a - iI b = iI (a - b) := iI_sub a b
theorem nz_mul (a : Nat) (b : Int) : nI a * iI b = iI ((a : Int) * b) := by rw [nI_z, iI_mul]
theorem zn_mul (a : Int) (b : Nat) : iI a * nI b = iI (a * (b : Int)) := by rw [nI_z, iI_mul]
theorem zz_mul (a b : Int) : iI a * iI b = iI (a * b) := iI_mul a b
theorem lI_add (a b : Int) : lI a + lI b = lI (a + b) := (Int64.ofInt_add a b).symm
theorem lI_sub (a b : Int) : lI a - lI b = lI (a - b) := (Int64.ofInt_sub a b).symm
theorem lI_mul (a b : Int) : lI a * lI b = lI (a * b) := (Int64.ofInt_mul a b).symm
def zOk (a : Int) : Prop := -2147483648 ≤ a ∧ a < 2147483648
theorem iI_toInt {a : Int} (h : zOk a) : (iI a).toInt = a := Int32.toInt_ofInt_of_le (by have := h.1; omega) (by have := h.2; omega)
theorem zOkN {a : Nat} (h : a < 2 ^ 31) : zOk (a : Int) := ⟨by omega, by omega⟩
theorem zz_eq {a b : Int} (ha : zOk a) (hb : zOk b) : iI a = iI b ↔ a = b := by
  rw [← Int32.toInt_inj, iI_toInt ha, iI_toInt hb]
theorem zz_lt {a b : Int} (ha : zOk a) (hb : zOk b) : iI a < iI b ↔ a < b := by
  rw [Int32.lt_iff_toInt_lt, iI_toInt ha, iI_toInt hb]
theorem zz_le {a b : Int} (ha : zOk a) (hb : zOk b) : iI a ≤ iI b ↔ a ≤ b := by
  rw [Int32.le_iff_toInt_le, iI_toInt ha, iI_toInt hb]
theorem nz_eq {a : Nat} {b : Int} (ha : a < 2 ^ 31) (hb : zOk b) : nI a = iI b ↔ (a : Int) = b := by rw [nI_z]; exact zz_eq (zOkN ha) hb
theorem zn_eq {a : Int} {b : Nat} (ha : zOk a) (hb : b < 2 ^ 31) : iI a = nI b ↔ a = (b : Int) := by rw [nI_z]; exact zz_eq ha (zOkN hb)
theorem nz_lt {a : Nat} {b : Int} (ha : a < 2 ^ 31) (hb : zOk b) : nI a < iI b ↔ (a : Int) < b := by rw [nI_z]; exact zz_lt (zOkN ha) hb
theorem zn_lt {a : Int} {b : Nat} (ha : zOk a) (hb : b < 2 ^ 31) : iI a < nI b ↔ a < (b : Int) := by rw [nI_z]; exact zz_lt ha (zOkN hb)
theorem nz_le {a : Nat} {b : Int} (ha : a < 2 ^ 31) (hb : zOk b) : nI a ≤ iI b ↔ (a : Int) ≤ b := by rw [nI_z]; exact zz_le (zOkN ha) hb
theorem zn_le {a : Int} {b : Nat} (ha : zOk a) (hb : b < 2 ^ 31) : iI a ≤ nI b ↔ a ≤ (b : Int) := by rw [nI_z]; exact zz_le ha (zOkN hb)
theorem bI_f {b : Bool} (h : bI b = 0) : b = false := by cases b; rfl; exact absurd h (by decide)
theorem bI_t {b : Bool} (h : ¬ bI b = 0) : b = true := by cases b; exact absurd rfl h; rfl
theorem bI_1 {b : Bool} (h : b = true) : (1 : Int32) = bI b := by subst h; rfl
theorem bI_0 {b : Bool} (h : b = false) : (0 : Int32) = bI b := by subst h; rfl
theorem zI_l {a : Int} (h : zOk a) : (iI a).toInt64 = lI a := Int64.toInt_inj.mp (by
  rw [Int32.toInt_toInt64, iI_toInt h]
  exact (Int64.toInt_ofInt_of_le (by have := h.1; omega) (by have := h.2; omega)).symm)
theorem nzI_l {a : Nat} (h : a < 2 ^ 31) : (nI a).toInt64 = lI (a : Int) := by rw [nI_z]; exact zI_l (zOkN h)
section MINE
variable {p : Program} {l : Launch} {e : Env} {R : Room} {s : State} {m : MethodId} {args : Array Value} {below : List Frame} {meth : Method} {c : Code} {H : Heap} {locs : List Loc} {cells slots : Nat} {Q : State → Prop}
variable {cc : ByteArray} {pc : Nat} {ls : Array Slot} {rest : List Value} {D : va_G} {cl : List vw_C} {A : Nat → Prop} {a : Nat} {tys : List (ClassId × FieldType)} {ws : va_W} {H0 : Heap}
theorem rt_i {x y : Int32} (h : x = y) (k : W p l e R s m args below meth c H locs cells slots Q (F0 m pc ls (.int y :: rest))) : W p l e R s m args below meth c H locs cells slots Q (F0 m pc ls (.int x :: rest)) := by rw [h]; exact k
theorem rt_l {x y : Int64} (h : x = y) (k : W p l e R s m args below meth c H locs cells slots Q (F0 m pc ls (.long y :: rest))) : W p l e R s m args below meth c H locs cells slots Q (F0 m pc ls (.long x :: rest)) := by rw [h]; exact k
/-- an int array read at a number -/
theorem ia_ld (hexec : p.tables.exec = Jvm.exec) (hb : c.code = cc) (hK : va_K D cl tys s) (hP : va_P D cl ws H) (q0 t0 : Nat) {cA : ClassId} {n k : Nat} {f : Nat → Int32} (ha : ws[q0]? = some (a, .inl (cA, n, .inl f))) (ht : tys[t0]? = some (cA, .int)) (hk : k < n) (hn : n < 2 ^ 31) (hdg : decode cc pc = .ok (.iaload, 1))
    (kk : W p l e R s m args below meth c H locs cells slots Q (F0 m (pc + 1) ls (.int (f k) :: rest))) : W p l e R s m args below meth c H locs cells slots Q (F0 m pc ls (.int (nI k) :: .ref a :: rest)) := by
  refine va_iald hexec hb hK hP q0 t0 ha ht (vp_in_nI hk hn) hdg ?_
  rw [nI_clamp (by omega)]
  exact kk
theorem ro_iret {r : Value} {v : Int32} (hexec : p.tables.exec = Jvm.exec) (hb : c.code = cc) (hr : meth.sig.returnType = some .int) (hv : Value.int v = r) (hdg : decode cc pc = .ok (.ireturn, 1)) (hlocks : meth.locks = false) : W p l e R s m args below meth c s.heap [] 0 0 (MQ below (k2_QcV r) args s 0 0 (fun _ => False)) (F0 m pc ls [.int v]) := by
  subst hv
  exact W.iret hexec hb hr (fun t ht _ => ⟨rfl, ht⟩) (fun _ h => nomatch h) hdg hlocks
theorem ro_zret {r : Value} {v : Int32} {ty : FieldType} (hexec : p.tables.exec = Jvm.exec) (hb : c.code = cc) (hr : meth.sig.returnType = some ty) (hn : narrow ty (.int v) = .int v) (hv : Value.int v = r) (hdg : decode cc pc = .ok (.ireturn, 1)) (hlocks : meth.locks = false) : W p l e R s m args below meth c s.heap [] 0 0 (MQ below (k2_QcV r) args s 0 0 (fun _ => False)) (F0 m pc ls [.int v]) := by
  subst hv
  exact W.zret hexec hb hr hn (fun t ht _ => ⟨rfl, ht⟩) (fun _ h => nomatch h) hdg hlocks
theorem ro_lret {r : Value} {v : Int64} (hexec : p.tables.exec = Jvm.exec) (hb : c.code = cc) (hr : meth.sig.returnType = some .long) (hv : Value.long v = r) (hdg : decode cc pc = .ok (.lreturn, 1)) (hlocks : meth.locks = false) : W p l e R s m args below meth c s.heap [] 0 0 (MQ below (k2_QcV r) args s 0 0 (fun _ => False)) (F0 m pc ls [.long v]) := by
  subst hv
  exact W.lret hexec hb hr (fun t ht _ => ⟨rfl, ht⟩) (fun _ h => nomatch h) hdg hlocks
end MINE
/-- a read-only method's contract: what it answers; the heap stays as it is -/
def ro_B (D : va_G) (cl : List vw_C) (ws : va_W) (tys : List (ClassId × FieldType)) (U : State) : Prop := va_P D cl ws U.heap ∧ va_K D cl tys U
theorem ro_Met {l : Launch} {y : MethodName} {ws ws' : List Cond} {rm : Room} {cc : ByteArray} {maxL : Nat} {ret : Option FieldType} {av : List Value} {D : va_G} {cl : List vw_C} {wo : va_W} {tys : List (ClassId × FieldType)} {r : Value}
    (hy : plainName y.cls = true) (hw : ws = Cond.code y cc maxL ret :: ws') (hlen : (lg_sl av).length ≤ maxL)
    (body : ∀ (p : Program) (e : Env) (s : State) (m : MethodId) (below : List Frame) (meth : Method) (c : Code) (ls : Array Slot), p.tables.exec = Jvm.exec → c.code = cc → c.maxLocals = maxL → meth.sig.returnType = ret → meth.locks = false → s.vm.findClass y.cls = some m.cls → (∀ w ∈ ws, w.before av.toArray s = true) → va_P D cl wo s.heap → va_K D cl tys s → lv_has ls maxL (lv_args 0 av) →
      W p l e rm s m av.toArray below meth c s.heap [] 0 0 (MQ below (k2_QcV r) av.toArray s 0 0 (fun _ => False)) (F0 m 0 ls [])) :
    Met l y ws rm (va_Pc av (ro_B D cl wo tys)) (k2_QcV r) 0 0 (fun _ => False) := by
  refine Met.ofW (cc := cc) (maxL := maxL) (ret := ret) hy hw ?_
  intro p e s m args below meth c s₁ B hml hv
  obtain ⟨rfl, hP, hK⟩ := hv
  have hl := lv_entry av (n := maxL) hlen
  rw [lg_entry_eq]
  exact body p e s m below meth c _ B.exec B.bytes hml B.returns B.notSynchronized (findClass_of_methodNamed B.named) (atoms_spec (ws := ws) B.pre) hP hK hl
section MINEC
variable {p : Program} {l : Launch} {e : Env} {R : Room} {s : State} {m : MethodId} {args : Array Value} {below : List Frame} {meth : Method} {c : Code} {H : Heap} {locs : List Loc} {cells slots : Nat} {Q : State → Prop}
variable {cc bytes : ByteArray} {pc nL maxL n index : Nat} {ls : Array Slot} {rest As st : List Value} {D : va_G} {cl : List vw_C} {tys : List (ClassId × FieldType)} {wo : va_W} {Ts ws : List Cond} {own C : String} {y : MethodName} {ret : Option FieldType} {rm : Room} {r : Value} {b : Nat}
theorem ro_pre (hP : va_P D cl wo H) (hK : va_K D cl tys s) (av : List Value) : PreS s H (va_Pc av (ro_B D cl wo tys)) av :=
  ⟨fun a U g mk q => by obtain ⟨q0, qP, qK⟩ := q; exact ⟨q0, qP, va_K.moved (u := U) (U := U.calling g mk a) (Vm.Alike.refl U.vm) qK⟩, fun U hU hW => ⟨rfl, by rw [hU]; exact hP, va_K.moved hW.alike hK⟩⟩
/-- a call of a read-only instance method -/
theorem ro_V (hx : p.tables.exec = Jvm.exec) (hb : c.code = cc) (hml : c.maxLocals = nL) (hown : s.vm.findClass own = some m.cls) (hts : ∀ w ∈ Ts, w.before args s = true)
    (hM : Met l y ws rm (va_Pc (.ref b :: As) (ro_B D cl wo tys)) (k2_QcV r) 0 0 (fun _ => False)) (cw : CallW R s args own C index y bytes maxL ret ws rm 0 0 n) (hK : va_K D cl tys s) (hP : va_P D cl wo H) {q0 ci : Nat} {q : u_T × Nat} {fs : List Value} (hc : cl[ci]? = some (C, q)) (he : wo[q0]? = some (b, .inr (ci, fs)))
    (hn : As.length = n) (hsize : ls.size = nL) (hstack : st = As.reverse ++ .ref b :: rest) (hW : (rest.map fun v => v.category).sum ≤ 8) (hdg : decode cc pc = .ok (.invokevirtual index, 3)) (hf : cells ≤ R.cells ∧ slots ≤ R.slots)
    (kk : W p l e R s m args below meth c H locs cells slots Q (F0 m (pc + 3) ls (r :: rest))) : W p l e R s m args below meth c H locs cells slots Q (F0 m pc ls st) := by
  obtain ⟨p1, p2⟩ := ro_pre hP hK (.ref b :: As)
  exact W.callV (W.runV (rest := rest) ⟨hx, hb, hml, hown, hts⟩ hM cw ⟨p1, va_recv hK hP hc he, p2⟩ rfl hn hsize hstack (lv_room hW) hdg hf) kk
/-- a call of a read-only static method -/
theorem ro_S (hx : p.tables.exec = Jvm.exec) (hb : c.code = cc) (hml : c.maxLocals = nL) (hown : s.vm.findClass own = some m.cls) (hts : ∀ w ∈ Ts, w.before args s = true)
    (hM : Met l y ws rm (va_Pc As (ro_B D cl wo tys)) (k2_QcV r) 0 0 (fun _ => False)) (cw : CallB R s args own index y bytes maxL ret ws rm 0 0 n ∧ (Cond.static y).before args s = true) (hK : va_K D cl tys s) (hP : va_P D cl wo H)
    (hn : As.length = n) (hsize : ls.size = nL) (hstack : st = As.reverse ++ rest) (hW : (rest.map fun v => v.category).sum ≤ 8) (hdg : decode cc pc = .ok (.invokestatic index, 3)) (hf : cells ≤ R.cells ∧ slots ≤ R.slots)
    (kk : W p l e R s m args below meth c H locs cells slots Q (F0 m (pc + 3) ls (r :: rest))) : W p l e R s m args below meth c H locs cells slots Q (F0 m pc ls st) :=
  W.callV (W.runS (rest := rest) ⟨hx, hb, hml, hown, hts⟩ hM cw (ro_pre hP hK As) rfl hn hsize hstack (lv_room hW) hdg hf) kk
end MINEC
end
section
/-! WHAT A STATE IS: the places of the points, the corners; for the class and for the reference a list of cells -/
abbrev GG : Type := (Nat → Nat) × (Nat → Nat) × (Nat → Nat)
/-- the class: geometry, points, the list of those there, how many, how many came, the scratch rows, the culprits -/
abbrev SV : Type := GG × Nat × (Nat → Nat) × Nat × Nat × (Nat → Int64) × (Nat → Nat) × Int32 × Int32
abbrev sPn (v : SV) : Nat := v.2.1
abbrev sTh (v : SV) : Nat → Nat := v.2.2.1
abbrev sTn (v : SV) : Nat := v.2.2.2.1
abbrev sTm (v : SV) : Nat := v.2.2.2.2.1
abbrev sJo (v : SV) : Nat → Int64 := v.2.2.2.2.2.1
abbrev sPi (v : SV) : Nat → Nat := v.2.2.2.2.2.2.1
abbrev sFa (v : SV) : Int32 := v.2.2.2.2.2.2.2.1
abbrev sFb (v : SV) : Int32 := v.2.2.2.2.2.2.2.2
/-- the reference: geometry, thrown, points, came, there, which are there, culprits, marks -/
abbrev MV : Type := GG × Int32 × Nat × Nat × Nat × (Nat → Bool) × Int32 × Int32 × (Nat → Nat)
abbrev mThr (w : MV) : Int32 := w.2.1
abbrev mPn (w : MV) : Nat := w.2.2.1
abbrev mTm (w : MV) : Nat := w.2.2.2.1
abbrev mTn (w : MV) : Nat := w.2.2.2.2.1
abbrev mIs (w : MV) : Nat → Bool := w.2.2.2.2.2.1
abbrev mFi (w : MV) : Int32 := w.2.2.2.2.2.2.1
abbrev mSe (w : MV) : Int32 := w.2.2.2.2.2.2.2.1
abbrev mMk (w : MV) : Nat → Nat := w.2.2.2.2.2.2.2.2
abbrev tyS (cI cL cZ : ClassId) : List (ClassId × FieldType) := [(cI, .int), (cL, .long), (cZ, .boolean)]
abbrev wS (cI cL : ClassId) (a : Nat → Nat) (v : SV) : va_W := [(a 0, .inr (2, [.ref (a 1), .ref (a 4), .ref (a 7), .ref (a 8), .int (sFa v), .int (sFb v)])), (a 1, .inr (0, [.ref (a 2), .ref (a 3), .int (nI (sPn v))])), (a 2, .inl (cI, 60, .inl (fun j => nI (v.1.1 j)))), (a 3, .inl (cI, 60, .inl (fun j => nI (v.1.2.1 j)))), (a 4, .inr (1, [.ref (a 5), .ref (a 6), .int (nI (sTn v)), .int (nI (sTm v))])), (a 5, .inl (cI, 600, .inl (fun j => nI (v.1.2.2 j)))), (a 6, .inl (cI, 60, .inl (fun j => nI (sTh v j)))), (a 7, .inl (cL, 60, .inr (.inl (sJo v)))), (a 8, .inl (cI, 200, .inl (fun j => nI (sPi v j))))]
abbrev wM (cI cZ : ClassId) (b : Nat → Nat) (w : MV) : va_W := [(b 0, .inr (3, [.int (mThr w), .int (nI (mPn w)), .int (nI (mTm w)), .int (nI (mTn w)), .ref (b 1), .ref (b 2), .ref (b 3), .ref (b 4), .int (mFi w), .int (mSe w), .ref (b 5)])), (b 1, .inl (cI, 60, .inl (fun j => nI (w.1.1 j)))), (b 2, .inl (cI, 60, .inl (fun j => nI (w.1.2.1 j)))), (b 3, .inl (cZ, 200, .inl (fun j => bI (mIs w j)))), (b 4, .inl (cI, 600, .inl (fun j => nI (w.1.2.2 j)))), (b 5, .inl (cI, 200, .inl (fun j => nI (mMk w j))))]
/-- every number in its range, wherever one looks -/
def okG (g : GG) : Prop := (∀ j, g.1 j < 512) ∧ (∀ j, g.2.1 j < 512) ∧ ∀ j, g.2.2 j < 60
def okS (v : SV) : Prop := okG v.1 ∧ sPn v ≤ 60 ∧ (∀ j, sTh v j < 200) ∧ sTn v ≤ 60 ∧ sTm v ≤ 200 ∧ ∀ j, sPi v j < 200
def okM (w : MV) : Prop := okG w.1 ∧ mPn w ≤ 60 ∧ mTm w ≤ 200 ∧ mTn w ≤ 60 ∧ ∀ j, mMk w j < 200
/-! the mathematics that both speak of -/
def gx (g : GG) (p : Nat) : Int := (g.1 p : Int)
def gy (g : GG) (p : Nat) : Int := (g.2.1 p : Int)
def gc (g : GG) (t k : Nat) : Nat := g.2.2 (3 * t + k % 3)
def trn (ax ay bx b_y cx cy : Int) : Int := (bx - ax) * (cy - ay) - (b_y - ay) * (cx - ax)
def tat (g : GG) (p q : Nat) (x y : Int) : Int := trn (gx g p) (gy g p) (gx g q) (gy g q) x y
def tof (g : GG) (p q r : Nat) : Int := tat g p q (gx g r) (gy g r)
def twi (g : GG) (t : Nat) : Int := tof g (gc g t 0) (gc g t 1) (gc g t 2)
def rgt (g : GG) (t : Nat) : Bool := decide (0 < twi g t)
def tbe (g : GG) (t k : Nat) (x y : Int) : Int := tat g (gc g t k) (gc g t (k + 1)) x y
/-- for all / some / the first of the numbers n, n + 1, .. (k of them) -/
def fnd (P : Nat → Bool) : Nat → Nat → Option Nat
  | 0, _ => none
  | k + 1, n => if P n = true then some n else fnd P k (n + 1)
def alf (P : Nat → Bool) : Nat → Nat → Bool
  | 0, _ => true
  | k + 1, n => P n && alf P k (n + 1)
def cnt (P : Nat → Bool) : Nat → Nat → Nat
  | 0, _ => 0
  | k + 1, n => (if P n = true then 1 else 0) + cnt P k (n + 1)
theorem fnd_hit {P : Nat → Bool} {k n : Nat} (hk : 0 < k) (h : P n = true) : fnd P k n = some n := by
  obtain ⟨k, rfl⟩ : ∃ j, k = j + 1 := ⟨k - 1, by omega⟩
  simp [fnd, h]
theorem fnd_miss {P : Nat → Bool} {k n : Nat} (hk : 0 < k) (h : P n = false) : fnd P k n = fnd P (k - 1) (n + 1) := by
  obtain ⟨k, rfl⟩ : ∃ j, k = j + 1 := ⟨k - 1, by omega⟩
  simp [fnd, h]
theorem fnd_lt {P : Nat → Bool} : ∀ {k n j : Nat}, fnd P k n = some j → n ≤ j ∧ j < n + k ∧ P j = true
  | 0, n, j, h => by simp [fnd] at h
  | k + 1, n, j, h => by
    by_cases hp : P n = true
    · simp [fnd, hp] at h; subst h; exact ⟨by omega, by omega, hp⟩
    · rw [fnd, if_neg hp] at h
      have := fnd_lt h
      exact ⟨by omega, by omega, this.2.2⟩
theorem alf_t {P : Nat → Bool} {k n : Nat} (hk : 0 < k) (h : P n = true) : alf P k n = alf P (k - 1) (n + 1) := by
  obtain ⟨k, rfl⟩ : ∃ j, k = j + 1 := ⟨k - 1, by omega⟩
  simp [alf, h]
theorem alf_f {P : Nat → Bool} {k n : Nat} (hk : 0 < k) (h : P n = false) : alf P k n = false := by
  obtain ⟨k, rfl⟩ : ∃ j, k = j + 1 := ⟨k - 1, by omega⟩
  simp [alf, h]
theorem cnt_t {P : Nat → Bool} {k n : Nat} (hk : 0 < k) (h : P n = true) : cnt P k n = 1 + cnt P (k - 1) (n + 1) := by
  obtain ⟨k, rfl⟩ : ∃ j, k = j + 1 := ⟨k - 1, by omega⟩
  simp [cnt, h]
theorem cnt_f {P : Nat → Bool} {k n : Nat} (hk : 0 < k) (h : P n = false) : cnt P k n = cnt P (k - 1) (n + 1) := by
  obtain ⟨k, rfl⟩ : ∃ j, k = j + 1 := ⟨k - 1, by omega⟩
  simp [cnt, h]
theorem cnt_le {P : Nat → Bool} : ∀ {k n : Nat}, cnt P k n ≤ k
  | 0, n => by simp [cnt]
  | k + 1, n => by
    have := cnt_le (P := P) (k := k) (n := n + 1)
    rw [cnt]; split <;> omega
/-- none is -1 -/
def oI : Option Nat → Int32
  | none => iI (-1)
  | some k => nI k
theorem zOk_m1 : zOk (-1) := ⟨by decide, by decide⟩
theorem oI_m1 {x : Option Nat} (h : ∀ k, x = some k → k < 2 ^ 31) : oI x = iI (-1) ↔ x = none := by
  cases x with
  | none => simp [oI]
  | some k =>
    have := h k rfl
    constructor
    · intro q
      have q2 : (k : Int) = -1 := (nz_eq this zOk_m1).mp q
      omega
    · intro q; cases q
theorem rb_1 {b : Bool} (h : b = true) : Value.int (nI 1) = .int (bI b) := by subst h; rfl
theorem rb_0 {b : Bool} (h : b = false) : Value.int (nI 0) = .int (bI b) := by subst h; rfl
theorem rO {x : Int32} {o : Option Nat} (h : x = oI o) : Value.int x = .int (oI o) := by rw [h]
/-- a place: 0 ≤ p < n -/
def inB (p : Int32) (n : Nat) : Bool := decide (0 ≤ p.toInt ∧ p.toInt < n)
theorem inB_neg {p : Int32} {n : Nat} (h : p < 0) : inB p n = false := by
  rw [Int32.lt_iff_toInt_lt, Int32.toInt_zero] at h
  simp [inB]; omega
theorem inB_big {p : Int32} {n : Nat} (hn : n < 2 ^ 31) (h : nI n ≤ p) : inB p n = false := by
  rw [Int32.le_iff_toInt_le, nI_toInt hn] at h
  simp [inB]; omega
theorem inB_in {p : Int32} {n : Nat} (hn : n < 2 ^ 31) (h0 : ¬ p < 0) (h : ¬ nI n ≤ p) : inB p n = true := by
  rw [Int32.le_iff_toInt_le, nI_toInt hn] at h
  rw [Int32.lt_iff_toInt_lt, Int32.toInt_zero] at h0
  simp [inB]; omega
theorem inB_of {p : Int32} {n : Nat} (hn : n < 2 ^ 31) (h : inB p n = true) : ∃ j, j < n ∧ p = nI j := by
  simp [inB] at h
  refine ⟨p.toInt.toNat, by omega, Int32.toInt_inj.mp ?_⟩
  rw [nI_toInt (by omega)]; omega
theorem inB_nI {j n : Nat} (hj : j < 2 ^ 31) : inB (nI j) n = decide (j < n) := by
  unfold inB; rw [nI_toInt hj]; congr 1; simp
/-- the point at a place -/
def pAt (g : GG) (pn : Nat) (x y : Int32) : Option Nat := fnd (fun p => decide (nI (g.1 p) = x) && decide (nI (g.2.1 p) = y)) pn 0
theorem pAt_lt {g : GG} {pn : Nat} {x y : Int32} {k : Nat} (h : pAt g pn x y = some k) : k < pn := by
  have := fnd_lt h; omega
def opp (a b : Int) : Bool := (decide (a < 0) && decide (0 < b)) || (decide (0 < a) && decide (b < 0))
def crs (g : GG) (p q r s : Nat) : Bool := opp (tof g p q r) (tof g p q s) && opp (tof g r s p) (tof g r s q)
theorem mul_bd {a b A B : Int} (ha : -A ≤ a ∧ a ≤ A) (hb : -B ≤ b ∧ b ≤ B) : -(A * B) ≤ a * b ∧ a * b ≤ A * B := by
  have h1 : 0 ≤ (A - a) * (B - b) := Int.mul_nonneg (by omega) (by omega)
  have h2 : 0 ≤ (A + a) * (B + b) := Int.mul_nonneg (by omega) (by omega)
  have h3 : 0 ≤ (A - a) * (B + b) := Int.mul_nonneg (by omega) (by omega)
  have h4 : 0 ≤ (A + a) * (B - b) := Int.mul_nonneg (by omega) (by omega)
  simp only [Int.sub_mul, Int.add_mul, Int.mul_sub, Int.mul_add] at h1 h2 h3 h4
  constructor <;> omega
theorem trn_ok {ax ay bx b_y cx cy : Int} (h1 : 0 ≤ ax ∧ ax < 512) (h2 : 0 ≤ ay ∧ ay < 512) (h3 : 0 ≤ bx ∧ bx < 512) (h4 : 0 ≤ b_y ∧ b_y < 512) (h5 : 0 ≤ cx ∧ cx < 512) (h6 : 0 ≤ cy ∧ cy < 512) : zOk (trn ax ay bx b_y cx cy) := by
  have a1 := mul_bd (a := bx - ax) (b := cy - ay) (A := 511) (B := 511) ⟨by omega, by omega⟩ ⟨by omega, by omega⟩
  have a2 := mul_bd (a := b_y - ay) (b := cx - ax) (A := 511) (B := 511) ⟨by omega, by omega⟩ ⟨by omega, by omega⟩
  unfold zOk trn
  constructor <;> omega
theorem tat_ok {g : GG} (h : okG g) {p q : Nat} {x y : Nat} (hx : x < 512) (hy : y < 512) : zOk (tat g p q (x : Int) (y : Int)) := by
  have h1 := h.1 p; have h2 := h.1 q; have h3 := h.2.1 p; have h4 := h.2.1 q
  unfold tat gx gy
  exact trn_ok ⟨by omega, by omega⟩ ⟨by omega, by omega⟩ ⟨by omega, by omega⟩ ⟨by omega, by omega⟩ ⟨by omega, by omega⟩ ⟨by omega, by omega⟩
theorem tof_ok {g : GG} (h : okG g) {p q r : Nat} : zOk (tof g p q r) := tat_ok h (h.1 r) (h.2.1 r)
theorem gc_lt {g : GG} (h : okG g) {t k : Nat} : gc g t k < 60 := h.2.2 _
/-! of triangles -/
def hcr (g : GG) (t p : Nat) : Bool := decide (gc g t 0 = p) || (decide (gc g t 1 = p) || decide (gc g t 2 = p))
def hed (g : GG) (t f o : Nat) : Bool := (decide (gc g t 0 = f) && decide (gc g t 1 = o)) || ((decide (gc g t 1 = f) && decide (gc g t 2 = o)) || (decide (gc g t 2 = f) && decide (gc g t 0 = o)))
def thB (th : Nat → Nat) (tn : Nat) (t : Int32) : Bool := (fnd (fun i => decide (nI (th i) = t)) tn 0).isSome
def nbi (g : GG) (th : Nat → Nat) (tn t k : Nat) : Option Nat := fnd (fun i => hed g (th i) (gc g t (k + 1)) (gc g t k)) tn 0
def nbr (g : GG) (th : Nat → Nat) (tn t k : Nat) : Option Nat := (nbi g th tn t k).map th
theorem mmin_n {x y : Nat} (hx : x < 2 ^ 31) (hy : y < 2 ^ 31) : (if nI y < nI x then nI y else nI x) = nI (min x y) := by
  by_cases h : y < x
  · rw [if_pos ((nI_ltI hy hx).mpr h)]; congr 1; omega
  · rw [if_neg (fun q => h ((nI_ltI hy hx).mp q))]; congr 1; omega
theorem mmax_n {x y : Nat} (hx : x < 2 ^ 31) (hy : y < 2 ^ 31) : (if nI x < nI y then nI y else nI x) = nI (max x y) := by
  by_cases h : x < y
  · rw [if_pos ((nI_ltI hx hy).mpr h)]; congr 1; omega
  · rw [if_neg (fun q => h ((nI_ltI hx hy).mp q))]; congr 1; omega
section LOOPS
variable {p : Program} {l : Launch} {e : Env} {R : Room} {s : State} {m : MethodId} {args : Array Value} {below : List Frame} {meth : Method} {c : Code} {H : Heap} {locs : List Loc} {cells slots : Nat} {Q : State → Prop} {pc nL : Nat} {st : List Value}
/-- a loop that leaves the heap alone: fuel, its own state, the locals by the state -/
theorem lp {σ : Type} {LV : σ → List (Nat × Value)} {I : Nat → σ → Prop}
    (h : ∀ (k : Nat) (x : σ) (ls : Array Slot), I k x → lv_has ls nL (LV x) → (∀ (k' : Nat) (x' : σ) (ls' : Array Slot), k' < k → I k' x' → lv_has ls' nL (LV x') → W p l e R s m args below meth c H locs cells slots Q (F0 m pc ls' st)) → W p l e R s m args below meth c H locs cells slots Q (F0 m pc ls st))
    (k : Nat) (x : σ) (ls : Array Slot) (hi : I k x) (hl : lv_has ls nL (LV x)) : W p l e R s m args below meth c H locs cells slots Q (F0 m pc ls st) := by
  induction k using Nat.strongRecOn generalizing x ls with
  | ind k ih => exact h k x ls hi hl (fun k' x' ls' hk hi' hl' => ih k' hk x' ls' hi' hl')
end LOOPS
theorem nbr_lt {v : SV} (hv : okS v) {t j k : Nat} (h : nbr v.1 (sTh v) (sTn v) t j = some k) : k < 200 := by
  unfold nbr at h
  cases hq : nbi v.1 (sTh v) (sTn v) t j with
  | none => rw [hq] at h; cases h
  | some i => rw [hq] at h; cases h; exact hv.2.2.1 i
theorem z0_eq {a : Int} (h : zOk a) : iI a = 0 ↔ a = 0 := zz_eq (b := 0) h ⟨by decide, by decide⟩
theorem z0_lt {a : Int} (h : zOk a) : iI a < 0 ↔ a < 0 := zz_lt (b := 0) h ⟨by decide, by decide⟩
theorem z0_le {a : Int} (h : zOk a) : iI a ≤ 0 ↔ a ≤ 0 := zz_le (b := 0) h ⟨by decide, by decide⟩
theorem l0_lt {a : Int} (h : zOk a) : 0 < iI a ↔ 0 < a := zz_lt (a := 0) ⟨by decide, by decide⟩ h
theorem l0_le {a : Int} (h : zOk a) : 0 ≤ iI a ↔ 0 ≤ a := zz_le (a := 0) ⟨by decide, by decide⟩ h
end
section
set_option maxHeartbeats 4000000 in
set_option maxRecDepth 100000 in
theorem c_X0_came (l : Launch) (dC : Nat → ClassId) (dI : Nat → Nat → Nat) (cI cL cZ : ClassId) (a : Nat → Nat) (v : SV)   : Met l yX0_came wsX0_came ({ frames := 0, cells := 0, slots := 0, locals := 0 }) (va_Pc [.ref (a 1)] (ro_B (dC, dI) vwCl (wS cI cL a v) (tyS cI cL cZ))) (k2_QcV (.int (nI (sPn v)))) 0 0 (fun _ => False) := by
  refine ro_Met (cc := cX0_came) (maxL := 1) (ret := (some .int)) (by decide) rfl (Nat.le_of_ble_eq_true rfl) ?_
  intro pr en s m below meth co ls hx hb hml hr hlocks hown hts hP hK hl
  have hl : lv_has ls 1 [(0, .ref (a 1))] := hl
  have hown : s.vm.findClass RX0 = some m.cls := hown
  refine lv_aload_n hx hb dX0_came_0 rfl (lv_at hl 0 rfl) ?_
  refine va_get (D := (dC, dI)) (ci := 0) (v := .int (nI (sPn v))) (C := RX0) (T := TX0) (N := 3) hx hb hts (by decide +kernel) hown hK hP 1 rfl rfl 2 (by decide) (hts (.fieldLink RX0 18 "TriangleSheet$Points" "came" "I") (by decide +kernel)) (fun _ h9 => h9) rfl dX0_came_1 ?_
  exact ro_iret hx hb hr rfl dX0_came_4 hlocks
set_option maxHeartbeats 4000000 in
set_option maxRecDepth 100000 in
theorem c_X0_isPoint (l : Launch) (dC : Nat → ClassId) (dI : Nat → Nat → Nat) (cI cL cZ : ClassId) (a : Nat → Nat) (v : SV) (q : Int32) (hv : okS v) : Met l yX0_isPoint wsX0_isPoint ({ frames := 0, cells := 0, slots := 0, locals := 0 }) (va_Pc [.ref (a 1), .int (q)] (ro_B (dC, dI) vwCl (wS cI cL a v) (tyS cI cL cZ))) (k2_QcV (.int (bI (inB q (sPn v))))) 0 0 (fun _ => False) := by
  refine ro_Met (cc := cX0_isPoint) (maxL := 2) (ret := (some .boolean)) (by decide) rfl (Nat.le_of_ble_eq_true rfl) ?_
  intro pr en s m below meth co ls hx hb hml hr hlocks hown hts hP hK hl
  have hl : lv_has ls 2 [(0, .ref (a 1)), (1, .int (q))] := hl
  have hown : s.vm.findClass RX0 = some m.cls := hown
  have hvp : sPn v ≤ 60 ∧ sTn v ≤ 60 ∧ sTm v ≤ 200 := ⟨hv.2.1, hv.2.2.2.1, hv.2.2.2.2.1⟩
  refine lv_iload_n hx hb dX0_isPoint_0 rfl (lv_at hl 1 rfl) ?_
  refine lv_if_lt (tgt := 16) hx hb dX0_isPoint_1 (by decide) (fun c_1 => ?_) (fun c_1 => ?_)
  · skip
    refine lv_iconst (v := nI (0)) hx hb dX0_isPoint_16 (by decide) ?_
    exact ro_zret hx hb hr (by decide) (rb_0 (by first | exact inB_neg (by assumption) | exact inB_big (by omega) (by assumption))) dX0_isPoint_17 hlocks
  · skip
    refine lv_iload_n hx hb dX0_isPoint_4 rfl (lv_at hl 1 rfl) ?_
    refine lv_aload_n hx hb dX0_isPoint_5 rfl (lv_at hl 0 rfl) ?_
    refine va_get (D := (dC, dI)) (ci := 0) (v := .int (nI (sPn v))) (C := RX0) (T := TX0) (N := 3) hx hb hts (by decide +kernel) hown hK hP 1 rfl rfl 2 (by decide) (hts (.fieldLink RX0 18 "TriangleSheet$Points" "came" "I") (by decide +kernel)) (fun _ h9 => h9) rfl dX0_isPoint_6 ?_
    refine lv_icmp_ge (tgt := 16) hx hb dX0_isPoint_9 (by decide) (fun c_2 => ?_) (fun c_2 => ?_)
    · skip
      refine lv_iconst (v := nI (0)) hx hb dX0_isPoint_16 (by decide) ?_
      exact ro_zret hx hb hr (by decide) (rb_0 (by first | exact inB_neg (by assumption) | exact inB_big (by omega) (by assumption))) dX0_isPoint_17 hlocks
    · skip
      refine lv_iconst (v := nI (1)) hx hb dX0_isPoint_12 (by decide) ?_
      refine lv_goto (tgt := 17) hx hb dX0_isPoint_13 (by decide) ?_
      exact ro_zret hx hb hr (by decide) (rb_1 (by exact inB_in (by omega) (by assumption) (by assumption))) dX0_isPoint_17 hlocks
set_option maxHeartbeats 4000000 in
set_option maxRecDepth 100000 in
theorem c_X0_x (l : Launch) (dC : Nat → ClassId) (dI : Nat → Nat → Nat) (cI cL cZ : ClassId) (a : Nat → Nat) (v : SV) (q : Nat) (hq : q < 60) : Met l yX0_x wsX0_x ({ frames := 0, cells := 0, slots := 0, locals := 0 }) (va_Pc [.ref (a 1), .int (nI (q))] (ro_B (dC, dI) vwCl (wS cI cL a v) (tyS cI cL cZ))) (k2_QcV (.int (nI (v.1.1 q)))) 0 0 (fun _ => False) := by
  refine ro_Met (cc := cX0_x) (maxL := 2) (ret := (some .int)) (by decide) rfl (Nat.le_of_ble_eq_true rfl) ?_
  intro pr en s m below meth co ls hx hb hml hr hlocks hown hts hP hK hl
  have hl : lv_has ls 2 [(0, .ref (a 1)), (1, .int (nI (q)))] := hl
  have hown : s.vm.findClass RX0 = some m.cls := hown
  refine lv_aload_n hx hb dX0_x_0 rfl (lv_at hl 0 rfl) ?_
  refine va_get (D := (dC, dI)) (ci := 0) (v := .ref (a 2)) (C := RX0) (T := TX0) (N := 3) hx hb hts (by decide +kernel) hown hK hP 1 rfl rfl 0 (by decide) (hts (.fieldLink RX0 9 "TriangleSheet$Points" "xs" "[I") (by decide +kernel)) (fun _ h9 => h9) rfl dX0_x_1 ?_
  refine lv_iload_n hx hb dX0_x_4 rfl (lv_at hl 1 rfl) ?_
  refine ia_ld (k := q) hx hb hK hP 2 0 rfl rfl (by omega) (by decide) dX0_x_5 ?_
  refine W.eq (g2 := F0 m 6 ls [.int (nI (v.1.1 (q)))]) rfl ?_
  exact ro_iret hx hb hr rfl dX0_x_6 hlocks
set_option maxHeartbeats 4000000 in
set_option maxRecDepth 100000 in
theorem c_X0_y (l : Launch) (dC : Nat → ClassId) (dI : Nat → Nat → Nat) (cI cL cZ : ClassId) (a : Nat → Nat) (v : SV) (q : Nat) (hq : q < 60) : Met l yX0_y wsX0_y ({ frames := 0, cells := 0, slots := 0, locals := 0 }) (va_Pc [.ref (a 1), .int (nI (q))] (ro_B (dC, dI) vwCl (wS cI cL a v) (tyS cI cL cZ))) (k2_QcV (.int (nI (v.1.2.1 q)))) 0 0 (fun _ => False) := by
  refine ro_Met (cc := cX0_y) (maxL := 2) (ret := (some .int)) (by decide) rfl (Nat.le_of_ble_eq_true rfl) ?_
  intro pr en s m below meth co ls hx hb hml hr hlocks hown hts hP hK hl
  have hl : lv_has ls 2 [(0, .ref (a 1)), (1, .int (nI (q)))] := hl
  have hown : s.vm.findClass RX0 = some m.cls := hown
  refine lv_aload_n hx hb dX0_y_0 rfl (lv_at hl 0 rfl) ?_
  refine va_get (D := (dC, dI)) (ci := 0) (v := .ref (a 3)) (C := RX0) (T := TX0) (N := 3) hx hb hts (by decide +kernel) hown hK hP 1 rfl rfl 1 (by decide) (hts (.fieldLink RX0 15 "TriangleSheet$Points" "ys" "[I") (by decide +kernel)) (fun _ h9 => h9) rfl dX0_y_1 ?_
  refine lv_iload_n hx hb dX0_y_4 rfl (lv_at hl 1 rfl) ?_
  refine ia_ld (k := q) hx hb hK hP 3 0 rfl rfl (by omega) (by decide) dX0_y_5 ?_
  refine W.eq (g2 := F0 m 6 ls [.int (nI (v.1.2.1 (q)))]) rfl ?_
  exact ro_iret hx hb hr rfl dX0_y_6 hlocks
set_option maxHeartbeats 4000000 in
set_option maxRecDepth 100000 in
theorem c_X0_pointAt (l : Launch) (dC : Nat → ClassId) (dI : Nat → Nat → Nat) (cI cL cZ : ClassId) (a : Nat → Nat) (v : SV) (x y : Int32) (hv : okS v) : Met l yX0_pointAt wsX0_pointAt ({ frames := 0, cells := 0, slots := 0, locals := 0 }) (va_Pc [.ref (a 1), .int (x), .int (y)] (ro_B (dC, dI) vwCl (wS cI cL a v) (tyS cI cL cZ))) (k2_QcV (.int (oI (pAt v.1 (sPn v) x y)))) 0 0 (fun _ => False) := by
  refine ro_Met (cc := cX0_pointAt) (maxL := 4) (ret := (some .int)) (by decide) rfl (Nat.le_of_ble_eq_true rfl) ?_
  intro pr en s m below meth co ls hx hb hml hr hlocks hown hts hP hK hl
  have hl : lv_has ls 4 [(0, .ref (a 1)), (1, .int (x)), (2, .int (y))] := hl
  have hown : s.vm.findClass RX0 = some m.cls := hown
  have hvp : sPn v ≤ 60 ∧ sTn v ≤ 60 ∧ sTm v ≤ 200 := ⟨hv.2.1, hv.2.2.2.1, hv.2.2.2.2.1⟩
  refine lv_iconst (v := nI (0)) hx hb dX0_pointAt_0 (by decide) ?_
  refine lv_istore_n (lv' := [(3, .int (nI (0))), (0, .ref (a 1)), (1, .int (x)), (2, .int (y))]) hx hb dX0_pointAt_1 rfl hl (by decide) rfl (fun ls hl => ?_)
  refine lp (σ := Nat) (LV := fun n => [(0, .ref (a 1)), (1, .int (x)), (2, .int (y)), (3, .int (nI (n)))]) (I := fun k n => n + k = sPn v ∧ pAt v.1 (sPn v) x y = fnd (fun q => decide (nI (v.1.1 q) = x) && decide (nI (v.1.2.1 q) = y)) k n) (fun k n ls hI_k hl ih_k => ?_) (sPn v) (0) ls ⟨by omega, rfl⟩ (lv_sub hl [1, 2, 3, 0] rfl)
  obtain ⟨hk, hi⟩ := hI_k
  refine lv_iload_n hx hb dX0_pointAt_2 rfl (lv_at hl 3 rfl) ?_
  refine lv_aload_n hx hb dX0_pointAt_3 rfl (lv_at hl 0 rfl) ?_
  refine va_get (D := (dC, dI)) (ci := 0) (v := .int (nI (sPn v))) (C := RX0) (T := TX0) (N := 3) hx hb hts (by decide +kernel) hown hK hP 1 rfl rfl 2 (by decide) (hts (.fieldLink RX0 18 "TriangleSheet$Points" "came" "I") (by decide +kernel)) (fun _ h9 => h9) rfl dX0_pointAt_4 ?_
  refine lv_icmp_ge (tgt := 38) hx hb dX0_pointAt_7 (by decide) (fun c_1 => ?_) (fun c_1 => ?_)
  · skip
    have c_1 : sPn v ≤ n := (nI_leI (a := sPn v) (b := n) (by omega) (by omega)).mp c_1
    refine lv_iconst (v := iI (-1)) hx hb dX0_pointAt_38 (by decide) ?_
    exact ro_iret hx hb hr (rO (by rw [hi, show k = 0 by omega]; rfl)) dX0_pointAt_39 hlocks
  · skip
    have c_1 : ¬ (sPn v ≤ n) := fun hq9 => c_1 ((nI_leI (a := sPn v) (b := n) (by omega) (by omega)).mpr hq9)
    refine lv_aload_n hx hb dX0_pointAt_10 rfl (lv_at hl 0 rfl) ?_
    refine va_get (D := (dC, dI)) (ci := 0) (v := .ref (a 2)) (C := RX0) (T := TX0) (N := 3) hx hb hts (by decide +kernel) hown hK hP 1 rfl rfl 0 (by decide) (hts (.fieldLink RX0 9 "TriangleSheet$Points" "xs" "[I") (by decide +kernel)) (fun _ h9 => h9) rfl dX0_pointAt_11 ?_
    refine lv_iload_n hx hb dX0_pointAt_14 rfl (lv_at hl 3 rfl) ?_
    refine ia_ld (k := n) hx hb hK hP 2 0 rfl rfl (by omega) (by decide) dX0_pointAt_15 ?_
    refine W.eq (g2 := F0 m 16 ls [.int (nI (v.1.1 (n)))]) rfl ?_
    have bd_2 := hv.1.1 (n)
    refine lv_iload_n hx hb dX0_pointAt_16 rfl (lv_at hl 1 rfl) ?_
    refine lv_icmp_ne (tgt := 32) hx hb dX0_pointAt_17 (by decide) (fun c_3 => ?_) (fun c_3 => ?_)
    · skip
      refine lv_iinc (v := nI (n + 1)) (lv' := [(3, .int (nI (n + 1))), (0, .ref (a 1)), (1, .int (x)), (2, .int (y))]) hx hb dX0_pointAt_32 hl (k := 3) rfl (nI_1 (n)) (by decide) rfl (fun ls hl => ?_)
      refine lv_goto (tgt := 2) hx hb dX0_pointAt_35 (by decide) ?_
      exact ih_k (k - 1) (n + 1) ls (by omega) ⟨by omega, hi.trans (fnd_miss (by omega) (by simp [c_1, c_3]))⟩ (lv_sub hl [1, 2, 3, 0] rfl)
    · skip
      refine lv_aload_n hx hb dX0_pointAt_20 rfl (lv_at hl 0 rfl) ?_
      refine va_get (D := (dC, dI)) (ci := 0) (v := .ref (a 3)) (C := RX0) (T := TX0) (N := 3) hx hb hts (by decide +kernel) hown hK hP 1 rfl rfl 1 (by decide) (hts (.fieldLink RX0 15 "TriangleSheet$Points" "ys" "[I") (by decide +kernel)) (fun _ h9 => h9) rfl dX0_pointAt_21 ?_
      refine lv_iload_n hx hb dX0_pointAt_24 rfl (lv_at hl 3 rfl) ?_
      refine ia_ld (k := n) hx hb hK hP 3 0 rfl rfl (by omega) (by decide) dX0_pointAt_25 ?_
      refine W.eq (g2 := F0 m 26 ls [.int (nI (v.1.2.1 (n)))]) rfl ?_
      have bd_4 := hv.1.2.1 (n)
      refine lv_iload_n hx hb dX0_pointAt_26 rfl (lv_at hl 2 rfl) ?_
      refine lv_icmp_ne (tgt := 32) hx hb dX0_pointAt_27 (by decide) (fun c_5 => ?_) (fun c_5 => ?_)
      · skip
        refine lv_iinc (v := nI (n + 1)) (lv' := [(3, .int (nI (n + 1))), (0, .ref (a 1)), (1, .int (x)), (2, .int (y))]) hx hb dX0_pointAt_32 hl (k := 3) rfl (nI_1 (n)) (by decide) rfl (fun ls hl => ?_)
        refine lv_goto (tgt := 2) hx hb dX0_pointAt_35 (by decide) ?_
        exact ih_k (k - 1) (n + 1) ls (by omega) ⟨by omega, hi.trans (fnd_miss (by omega) (by simp [c_1, c_3, c_5]))⟩ (lv_sub hl [1, 2, 3, 0] rfl)
      · skip
        refine lv_iload_n hx hb dX0_pointAt_30 rfl (lv_at hl 3 rfl) ?_
        exact ro_iret hx hb hr (rO (by rw [hi, fnd_hit (by omega) (by simp [c_1, c_3, c_5])]; rfl)) dX0_pointAt_31 hlocks
set_option maxHeartbeats 4000000 in
set_option maxRecDepth 100000 in
theorem c_X0_canAdd (l : Launch) (dC : Nat → ClassId) (dI : Nat → Nat → Nat) (cI cL cZ : ClassId) (a : Nat → Nat) (v : SV) (x y : Int32) (hv : okS v) : Met l yX0_canAdd wsX0_canAdd ({ frames := 1, cells := 0, slots := 0, locals := 23 }) (va_Pc [.ref (a 1), .int (x), .int (y)] (ro_B (dC, dI) vwCl (wS cI cL a v) (tyS cI cL cZ))) (k2_QcV (.int (bI (decide (sPn v < 60) && decide (pAt v.1 (sPn v) x y = none))))) 0 0 (fun _ => False) := by
  refine ro_Met (cc := cX0_canAdd) (maxL := 3) (ret := (some .boolean)) (by decide) rfl (Nat.le_of_ble_eq_true rfl) ?_
  intro pr en s m below meth co ls hx hb hml hr hlocks hown hts hP hK hl
  have hl : lv_has ls 3 [(0, .ref (a 1)), (1, .int (x)), (2, .int (y))] := hl
  have hown : s.vm.findClass RX0 = some m.cls := hown
  have hvp : sPn v ≤ 60 ∧ sTn v ≤ 60 ∧ sTm v ≤ 200 := ⟨hv.2.1, hv.2.2.2.1, hv.2.2.2.2.1⟩
  refine lv_aload_n hx hb dX0_canAdd_0 rfl (lv_at hl 0 rfl) ?_
  refine va_get (D := (dC, dI)) (ci := 0) (v := .int (nI (sPn v))) (C := RX0) (T := TX0) (N := 3) hx hb hts (by decide +kernel) hown hK hP 1 rfl rfl 2 (by decide) (hts (.fieldLink RX0 18 "TriangleSheet$Points" "came" "I") (by decide +kernel)) (fun _ h9 => h9) rfl dX0_canAdd_1 ?_
  refine lv_bipush (v := nI (60)) hx hb dX0_canAdd_4 (by decide) ?_
  refine lv_icmp_ge (tgt := 23) hx hb dX0_canAdd_6 (by decide) (fun c_1 => ?_) (fun c_1 => ?_)
  · skip
    have c_1 : 60 ≤ sPn v := (nI_leI (a := 60) (b := sPn v) (by omega) (by omega)).mp c_1
    refine lv_iconst (v := nI (0)) hx hb dX0_canAdd_23 (by decide) ?_
    exact ro_zret hx hb hr (by decide) (rb_0 (by first | (simp [c_1]; done) | (simp; omega) | (simp [c_1]; omega))) dX0_canAdd_24 hlocks
  · skip
    have c_1 : ¬ (60 ≤ sPn v) := fun hq9 => c_1 ((nI_leI (a := 60) (b := sPn v) (by omega) (by omega)).mpr hq9)
    refine lv_aload_n hx hb dX0_canAdd_9 rfl (lv_at hl 0 rfl) ?_
    refine lv_iload_n hx hb dX0_canAdd_10 rfl (lv_at hl 1 rfl) ?_
    refine lv_iload_n hx hb dX0_canAdd_11 rfl (lv_at hl 2 rfl) ?_
    refine ro_V (As := [.int (x), .int (y)]) (rest := []) (q0 := 1) (ci := 0) hx hb hml hown hts (c_X0_pointAt l dC dI cI cL cZ a v x y hv) (cwV 2 hts gX0_canAdd_X0_pointAt rfl rfl rfl (by decide +kernel) ⟨Nat.le_of_ble_eq_true rfl, Nat.le_of_ble_eq_true rfl⟩) hK hP rfl rfl rfl hl.1 rfl (Nat.le_of_ble_eq_true rfl) dX0_canAdd_12 ⟨Nat.zero_le _, Nat.zero_le _⟩ ?_
    have ps_2 : ∀ k, pAt v.1 (sPn v) x y = some k → k < 2 ^ 31 := fun k h => by have := pAt_lt h; omega
    refine lv_iconst (v := iI (-1)) hx hb dX0_canAdd_15 (by decide) ?_
    refine lv_icmp_ne (tgt := 23) hx hb dX0_canAdd_16 (by decide) (fun c_3 => ?_) (fun c_3 => ?_)
    · skip
      have c_3 : ¬ (pAt v.1 (sPn v) x y) = none := fun hq9 => c_3 ((oI_m1 (by assumption)).mpr hq9)
      refine lv_iconst (v := nI (0)) hx hb dX0_canAdd_23 (by decide) ?_
      exact ro_zret hx hb hr (by decide) (rb_0 (by first | (simp [c_1, c_3]; done) | (simp; omega) | (simp [c_1, c_3]; omega))) dX0_canAdd_24 hlocks
    · skip
      have c_3 : (pAt v.1 (sPn v) x y) = none := (oI_m1 (by assumption)).mp c_3
      refine lv_iconst (v := nI (1)) hx hb dX0_canAdd_19 (by decide) ?_
      refine lv_goto (tgt := 24) hx hb dX0_canAdd_20 (by decide) ?_
      exact ro_zret hx hb hr (by decide) (rb_1 (by simp [c_1, c_3]; omega)) dX0_canAdd_24 hlocks
set_option maxHeartbeats 4000000 in
set_option maxRecDepth 100000 in
theorem c_X0_turnAt (l : Launch) (dC : Nat → ClassId) (dI : Nat → Nat → Nat) (cI cL cZ : ClassId) (a : Nat → Nat) (v : SV) (p q x y : Nat) (hp : p < 60) (hq : q < 60) : Met l yX0_turnAt wsX0_turnAt ({ frames := 0, cells := 0, slots := 0, locals := 0 }) (va_Pc [.ref (a 1), .int (nI (p)), .int (nI (q)), .int (nI (x)), .int (nI (y))] (ro_B (dC, dI) vwCl (wS cI cL a v) (tyS cI cL cZ))) (k2_QcV (.int (iI (tat v.1 p q (x : Int) (y : Int))))) 0 0 (fun _ => False) := by
  refine ro_Met (cc := cX0_turnAt) (maxL := 5) (ret := (some .int)) (by decide) rfl (Nat.le_of_ble_eq_true rfl) ?_
  intro pr en s m below meth co ls hx hb hml hr hlocks hown hts hP hK hl
  have hl : lv_has ls 5 [(0, .ref (a 1)), (1, .int (nI (p))), (2, .int (nI (q))), (3, .int (nI (x))), (4, .int (nI (y)))] := hl
  have hown : s.vm.findClass RX0 = some m.cls := hown
  refine lv_aload_n hx hb dX0_turnAt_0 rfl (lv_at hl 0 rfl) ?_
  refine va_get (D := (dC, dI)) (ci := 0) (v := .ref (a 2)) (C := RX0) (T := TX0) (N := 3) hx hb hts (by decide +kernel) hown hK hP 1 rfl rfl 0 (by decide) (hts (.fieldLink RX0 9 "TriangleSheet$Points" "xs" "[I") (by decide +kernel)) (fun _ h9 => h9) rfl dX0_turnAt_1 ?_
  refine lv_iload_n hx hb dX0_turnAt_4 rfl (lv_at hl 2 rfl) ?_
  refine ia_ld (k := q) hx hb hK hP 2 0 rfl rfl (by omega) (by decide) dX0_turnAt_5 ?_
  refine W.eq (g2 := F0 m 6 ls [.int (nI (v.1.1 (q)))]) rfl ?_
  refine lv_aload_n hx hb dX0_turnAt_6 rfl (lv_at hl 0 rfl) ?_
  refine va_get (D := (dC, dI)) (ci := 0) (v := .ref (a 2)) (C := RX0) (T := TX0) (N := 3) hx hb hts (by decide +kernel) hown hK hP 1 rfl rfl 0 (by decide) (hts (.fieldLink RX0 9 "TriangleSheet$Points" "xs" "[I") (by decide +kernel)) (fun _ h9 => h9) rfl dX0_turnAt_7 ?_
  refine lv_iload_n hx hb dX0_turnAt_10 rfl (lv_at hl 1 rfl) ?_
  refine ia_ld (k := p) hx hb hK hP 2 0 rfl rfl (by omega) (by decide) dX0_turnAt_11 ?_
  refine W.eq (g2 := F0 m 12 ls [.int (nI (v.1.1 (p))), .int (nI (v.1.1 (q)))]) rfl ?_
  refine lv_isub hx hb dX0_turnAt_12 ?_
  refine rt_i (y := (iI ((((v.1.1 (q) : Nat) : Int)) - (((v.1.1 (p) : Nat) : Int))))) (nn_sub (v.1.1 (q)) (v.1.1 (p))) ?_
  refine lv_iload hx hb dX0_turnAt_13 (lv_at hl 4 rfl) ?_
  refine lv_aload_n hx hb dX0_turnAt_15 rfl (lv_at hl 0 rfl) ?_
  refine va_get (D := (dC, dI)) (ci := 0) (v := .ref (a 3)) (C := RX0) (T := TX0) (N := 3) hx hb hts (by decide +kernel) hown hK hP 1 rfl rfl 1 (by decide) (hts (.fieldLink RX0 15 "TriangleSheet$Points" "ys" "[I") (by decide +kernel)) (fun _ h9 => h9) rfl dX0_turnAt_16 ?_
  refine lv_iload_n hx hb dX0_turnAt_19 rfl (lv_at hl 1 rfl) ?_
  refine ia_ld (k := p) hx hb hK hP 3 0 rfl rfl (by omega) (by decide) dX0_turnAt_20 ?_
  refine W.eq (g2 := F0 m 21 ls [.int (nI (v.1.2.1 (p))), .int (nI (y)), .int (iI ((((v.1.1 (q) : Nat) : Int)) - (((v.1.1 (p) : Nat) : Int))))]) rfl ?_
  refine lv_isub hx hb dX0_turnAt_21 ?_
  refine rt_i (y := (iI ((((y : Nat) : Int)) - (((v.1.2.1 (p) : Nat) : Int))))) (nn_sub (y) (v.1.2.1 (p))) ?_
  refine lv_imul hx hb dX0_turnAt_22 ?_
  refine rt_i (y := (iI (((((v.1.1 (q) : Nat) : Int)) - (((v.1.1 (p) : Nat) : Int))) * ((((y : Nat) : Int)) - (((v.1.2.1 (p) : Nat) : Int)))))) (zz_mul ((((v.1.1 (q) : Nat) : Int)) - (((v.1.1 (p) : Nat) : Int))) ((((y : Nat) : Int)) - (((v.1.2.1 (p) : Nat) : Int)))) ?_
  refine lv_aload_n hx hb dX0_turnAt_23 rfl (lv_at hl 0 rfl) ?_
  refine va_get (D := (dC, dI)) (ci := 0) (v := .ref (a 3)) (C := RX0) (T := TX0) (N := 3) hx hb hts (by decide +kernel) hown hK hP 1 rfl rfl 1 (by decide) (hts (.fieldLink RX0 15 "TriangleSheet$Points" "ys" "[I") (by decide +kernel)) (fun _ h9 => h9) rfl dX0_turnAt_24 ?_
  refine lv_iload_n hx hb dX0_turnAt_27 rfl (lv_at hl 2 rfl) ?_
  refine ia_ld (k := q) hx hb hK hP 3 0 rfl rfl (by omega) (by decide) dX0_turnAt_28 ?_
  refine W.eq (g2 := F0 m 29 ls [.int (nI (v.1.2.1 (q))), .int (iI (((((v.1.1 (q) : Nat) : Int)) - (((v.1.1 (p) : Nat) : Int))) * ((((y : Nat) : Int)) - (((v.1.2.1 (p) : Nat) : Int)))))]) rfl ?_
  refine lv_aload_n hx hb dX0_turnAt_29 rfl (lv_at hl 0 rfl) ?_
  refine va_get (D := (dC, dI)) (ci := 0) (v := .ref (a 3)) (C := RX0) (T := TX0) (N := 3) hx hb hts (by decide +kernel) hown hK hP 1 rfl rfl 1 (by decide) (hts (.fieldLink RX0 15 "TriangleSheet$Points" "ys" "[I") (by decide +kernel)) (fun _ h9 => h9) rfl dX0_turnAt_30 ?_
  refine lv_iload_n hx hb dX0_turnAt_33 rfl (lv_at hl 1 rfl) ?_
  refine ia_ld (k := p) hx hb hK hP 3 0 rfl rfl (by omega) (by decide) dX0_turnAt_34 ?_
  refine W.eq (g2 := F0 m 35 ls [.int (nI (v.1.2.1 (p))), .int (nI (v.1.2.1 (q))), .int (iI (((((v.1.1 (q) : Nat) : Int)) - (((v.1.1 (p) : Nat) : Int))) * ((((y : Nat) : Int)) - (((v.1.2.1 (p) : Nat) : Int)))))]) rfl ?_
  refine lv_isub hx hb dX0_turnAt_35 ?_
  refine rt_i (y := (iI ((((v.1.2.1 (q) : Nat) : Int)) - (((v.1.2.1 (p) : Nat) : Int))))) (nn_sub (v.1.2.1 (q)) (v.1.2.1 (p))) ?_
  refine lv_iload_n hx hb dX0_turnAt_36 rfl (lv_at hl 3 rfl) ?_
  refine lv_aload_n hx hb dX0_turnAt_37 rfl (lv_at hl 0 rfl) ?_
  refine va_get (D := (dC, dI)) (ci := 0) (v := .ref (a 2)) (C := RX0) (T := TX0) (N := 3) hx hb hts (by decide +kernel) hown hK hP 1 rfl rfl 0 (by decide) (hts (.fieldLink RX0 9 "TriangleSheet$Points" "xs" "[I") (by decide +kernel)) (fun _ h9 => h9) rfl dX0_turnAt_38 ?_
  refine lv_iload_n hx hb dX0_turnAt_41 rfl (lv_at hl 1 rfl) ?_
  refine ia_ld (k := p) hx hb hK hP 2 0 rfl rfl (by omega) (by decide) dX0_turnAt_42 ?_
  refine W.eq (g2 := F0 m 43 ls [.int (nI (v.1.1 (p))), .int (nI (x)), .int (iI ((((v.1.2.1 (q) : Nat) : Int)) - (((v.1.2.1 (p) : Nat) : Int)))), .int (iI (((((v.1.1 (q) : Nat) : Int)) - (((v.1.1 (p) : Nat) : Int))) * ((((y : Nat) : Int)) - (((v.1.2.1 (p) : Nat) : Int)))))]) rfl ?_
  refine lv_isub hx hb dX0_turnAt_43 ?_
  refine rt_i (y := (iI ((((x : Nat) : Int)) - (((v.1.1 (p) : Nat) : Int))))) (nn_sub (x) (v.1.1 (p))) ?_
  refine lv_imul hx hb dX0_turnAt_44 ?_
  refine rt_i (y := (iI (((((v.1.2.1 (q) : Nat) : Int)) - (((v.1.2.1 (p) : Nat) : Int))) * ((((x : Nat) : Int)) - (((v.1.1 (p) : Nat) : Int)))))) (zz_mul ((((v.1.2.1 (q) : Nat) : Int)) - (((v.1.2.1 (p) : Nat) : Int))) ((((x : Nat) : Int)) - (((v.1.1 (p) : Nat) : Int)))) ?_
  refine lv_isub hx hb dX0_turnAt_45 ?_
  refine rt_i (y := (iI ((((((v.1.1 (q) : Nat) : Int)) - (((v.1.1 (p) : Nat) : Int))) * ((((y : Nat) : Int)) - (((v.1.2.1 (p) : Nat) : Int)))) - (((((v.1.2.1 (q) : Nat) : Int)) - (((v.1.2.1 (p) : Nat) : Int))) * ((((x : Nat) : Int)) - (((v.1.1 (p) : Nat) : Int))))))) (zz_sub (((((v.1.1 (q) : Nat) : Int)) - (((v.1.1 (p) : Nat) : Int))) * ((((y : Nat) : Int)) - (((v.1.2.1 (p) : Nat) : Int)))) (((((v.1.2.1 (q) : Nat) : Int)) - (((v.1.2.1 (p) : Nat) : Int))) * ((((x : Nat) : Int)) - (((v.1.1 (p) : Nat) : Int))))) ?_
  exact ro_iret hx hb hr rfl dX0_turnAt_46 hlocks
set_option maxHeartbeats 4000000 in
set_option maxRecDepth 100000 in
theorem c_X0_turnOf (l : Launch) (dC : Nat → ClassId) (dI : Nat → Nat → Nat) (cI cL cZ : ClassId) (a : Nat → Nat) (v : SV) (p q r : Nat) (hp : p < 60) (hq : q < 60) (hr : r < 60) : Met l yX0_turnOf wsX0_turnOf ({ frames := 1, cells := 0, slots := 0, locals := 24 }) (va_Pc [.ref (a 1), .int (nI (p)), .int (nI (q)), .int (nI (r))] (ro_B (dC, dI) vwCl (wS cI cL a v) (tyS cI cL cZ))) (k2_QcV (.int (iI (tof v.1 p q r)))) 0 0 (fun _ => False) := by
  refine ro_Met (cc := cX0_turnOf) (maxL := 4) (ret := (some .int)) (by decide) rfl (Nat.le_of_ble_eq_true rfl) ?_
  intro pr en s m below meth co ls hx hb hml hr hlocks hown hts hP hK hl
  have hl : lv_has ls 4 [(0, .ref (a 1)), (1, .int (nI (p))), (2, .int (nI (q))), (3, .int (nI (r)))] := hl
  have hown : s.vm.findClass RX0 = some m.cls := hown
  refine lv_aload_n hx hb dX0_turnOf_0 rfl (lv_at hl 0 rfl) ?_
  refine lv_iload_n hx hb dX0_turnOf_1 rfl (lv_at hl 1 rfl) ?_
  refine lv_iload_n hx hb dX0_turnOf_2 rfl (lv_at hl 2 rfl) ?_
  refine lv_aload_n hx hb dX0_turnOf_3 rfl (lv_at hl 0 rfl) ?_
  refine va_get (D := (dC, dI)) (ci := 0) (v := .ref (a 2)) (C := RX0) (T := TX0) (N := 3) hx hb hts (by decide +kernel) hown hK hP 1 rfl rfl 0 (by decide) (hts (.fieldLink RX0 9 "TriangleSheet$Points" "xs" "[I") (by decide +kernel)) (fun _ h9 => h9) rfl dX0_turnOf_4 ?_
  refine lv_iload_n hx hb dX0_turnOf_7 rfl (lv_at hl 3 rfl) ?_
  refine ia_ld (k := r) hx hb hK hP 2 0 rfl rfl (by omega) (by decide) dX0_turnOf_8 ?_
  refine W.eq (g2 := F0 m 9 ls [.int (nI (v.1.1 (r))), .int (nI (q)), .int (nI (p)), .ref (a 1)]) rfl ?_
  refine lv_aload_n hx hb dX0_turnOf_9 rfl (lv_at hl 0 rfl) ?_
  refine va_get (D := (dC, dI)) (ci := 0) (v := .ref (a 3)) (C := RX0) (T := TX0) (N := 3) hx hb hts (by decide +kernel) hown hK hP 1 rfl rfl 1 (by decide) (hts (.fieldLink RX0 15 "TriangleSheet$Points" "ys" "[I") (by decide +kernel)) (fun _ h9 => h9) rfl dX0_turnOf_10 ?_
  refine lv_iload_n hx hb dX0_turnOf_13 rfl (lv_at hl 3 rfl) ?_
  refine ia_ld (k := r) hx hb hK hP 3 0 rfl rfl (by omega) (by decide) dX0_turnOf_14 ?_
  refine W.eq (g2 := F0 m 15 ls [.int (nI (v.1.2.1 (r))), .int (nI (v.1.1 (r))), .int (nI (q)), .int (nI (p)), .ref (a 1)]) rfl ?_
  refine ro_V (As := [.int (nI (p)), .int (nI (q)), .int (nI (v.1.1 (r))), .int (nI (v.1.2.1 (r)))]) (rest := []) (q0 := 1) (ci := 0) hx hb hml hown hts (c_X0_turnAt l dC dI cI cL cZ a v p q (v.1.1 (r)) (v.1.2.1 (r)) (by omega) (by omega)) (cwV 4 hts gX0_turnOf_X0_turnAt rfl rfl rfl (by decide +kernel) ⟨Nat.le_of_ble_eq_true rfl, Nat.le_of_ble_eq_true rfl⟩) hK hP rfl rfl rfl hl.1 rfl (Nat.le_of_ble_eq_true rfl) dX0_turnOf_15 ⟨Nat.zero_le _, Nat.zero_le _⟩ ?_
  exact ro_iret hx hb hr rfl dX0_turnOf_18 hlocks
set_option maxHeartbeats 4000000 in
set_option maxRecDepth 100000 in
theorem c_X0_areOpposite (l : Launch) (dC : Nat → ClassId) (dI : Nat → Nat → Nat)  (x y : Int) (hxo : zOk x) (hyo : zOk y) : Met l yX0_areOpposite wsX0_areOpposite ({ frames := 0, cells := 0, slots := 0, locals := 0 }) (va_Pc [.int (iI (x)), .int (iI (y))] (ro_B (dC, dI) vwCl [] [])) (k2_QcV (.int (bI (opp x y)))) 0 0 (fun _ => False) := by
  refine ro_Met (cc := cX0_areOpposite) (maxL := 2) (ret := (some .boolean)) (by decide) rfl (Nat.le_of_ble_eq_true rfl) ?_
  intro pr en s m below meth co ls hx hb hml hr hlocks hown hts hP hK hl
  have hl : lv_has ls 2 [(0, .int (iI (x))), (1, .int (iI (y)))] := hl
  have hown : s.vm.findClass RX0 = some m.cls := hown
  refine lv_iload_n hx hb dX0_areOpposite_0 rfl (lv_at hl 0 rfl) ?_
  refine lv_if_ge (tgt := 8) hx hb dX0_areOpposite_1 (by decide) (fun c_1 => ?_) (fun c_1 => ?_)
  · skip
    have c_1 : 0 ≤ x := (l0_le (by assumption)).mp c_1
    refine lv_iload_n hx hb dX0_areOpposite_8 rfl (lv_at hl 0 rfl) ?_
    refine lv_if_le (tgt := 20) hx hb dX0_areOpposite_9 (by decide) (fun c_2 => ?_) (fun c_2 => ?_)
    · skip
      have c_2 : x ≤ 0 := (z0_le (by assumption)).mp c_2
      refine lv_iconst (v := nI (0)) hx hb dX0_areOpposite_20 (by decide) ?_
      exact ro_zret hx hb hr (by decide) (rb_0 (by simp [opp]; omega)) dX0_areOpposite_21 hlocks
    · skip
      have c_2 : ¬ (x ≤ 0) := fun hq9 => c_2 ((z0_le (by assumption)).mpr hq9)
      refine lv_iload_n hx hb dX0_areOpposite_12 rfl (lv_at hl 1 rfl) ?_
      refine lv_if_ge (tgt := 20) hx hb dX0_areOpposite_13 (by decide) (fun c_3 => ?_) (fun c_3 => ?_)
      · skip
        have c_3 : 0 ≤ y := (l0_le (by assumption)).mp c_3
        refine lv_iconst (v := nI (0)) hx hb dX0_areOpposite_20 (by decide) ?_
        exact ro_zret hx hb hr (by decide) (rb_0 (by simp [opp]; omega)) dX0_areOpposite_21 hlocks
      · skip
        have c_3 : ¬ (0 ≤ y) := fun hq9 => c_3 ((l0_le (by assumption)).mpr hq9)
        refine lv_iconst (v := nI (1)) hx hb dX0_areOpposite_16 (by decide) ?_
        refine lv_goto (tgt := 21) hx hb dX0_areOpposite_17 (by decide) ?_
        exact ro_zret hx hb hr (by decide) (rb_1 (by simp [opp]; omega)) dX0_areOpposite_21 hlocks
  · skip
    have c_1 : ¬ (0 ≤ x) := fun hq9 => c_1 ((l0_le (by assumption)).mpr hq9)
    refine lv_iload_n hx hb dX0_areOpposite_4 rfl (lv_at hl 1 rfl) ?_
    refine lv_if_gt (tgt := 16) hx hb dX0_areOpposite_5 (by decide) (fun c_4 => ?_) (fun c_4 => ?_)
    · skip
      have c_4 : 0 < y := (l0_lt (by assumption)).mp c_4
      refine lv_iconst (v := nI (1)) hx hb dX0_areOpposite_16 (by decide) ?_
      refine lv_goto (tgt := 21) hx hb dX0_areOpposite_17 (by decide) ?_
      exact ro_zret hx hb hr (by decide) (rb_1 (by simp [opp]; omega)) dX0_areOpposite_21 hlocks
    · skip
      have c_4 : ¬ (0 < y) := fun hq9 => c_4 ((l0_lt (by assumption)).mpr hq9)
      refine lv_iload_n hx hb dX0_areOpposite_8 rfl (lv_at hl 0 rfl) ?_
      refine lv_if_le (tgt := 20) hx hb dX0_areOpposite_9 (by decide) (fun c_5 => ?_) (fun c_5 => ?_)
      · skip
        have c_5 : x ≤ 0 := (z0_le (by assumption)).mp c_5
        refine lv_iconst (v := nI (0)) hx hb dX0_areOpposite_20 (by decide) ?_
        exact ro_zret hx hb hr (by decide) (rb_0 (by simp [opp]; omega)) dX0_areOpposite_21 hlocks
      · skip
        have c_5 : ¬ (x ≤ 0) := fun hq9 => c_5 ((z0_le (by assumption)).mpr hq9)
        refine lv_iload_n hx hb dX0_areOpposite_12 rfl (lv_at hl 1 rfl) ?_
        refine lv_if_ge (tgt := 20) hx hb dX0_areOpposite_13 (by decide) (fun c_6 => ?_) (fun c_6 => ?_)
        · skip
          have c_6 : 0 ≤ y := (l0_le (by assumption)).mp c_6
          refine lv_iconst (v := nI (0)) hx hb dX0_areOpposite_20 (by decide) ?_
          exact ro_zret hx hb hr (by decide) (rb_0 (by simp [opp]; omega)) dX0_areOpposite_21 hlocks
        · skip
          have c_6 : ¬ (0 ≤ y) := fun hq9 => c_6 ((l0_le (by assumption)).mpr hq9)
          refine lv_iconst (v := nI (1)) hx hb dX0_areOpposite_16 (by decide) ?_
          refine lv_goto (tgt := 21) hx hb dX0_areOpposite_17 (by decide) ?_
          exact ro_zret hx hb hr (by decide) (rb_1 (by simp [opp]; omega)) dX0_areOpposite_21 hlocks
set_option maxHeartbeats 4000000 in
set_option maxRecDepth 100000 in
theorem c_X0_isCrossing (l : Launch) (dC : Nat → ClassId) (dI : Nat → Nat → Nat) (cI cL cZ : ClassId) (a : Nat → Nat) (v : SV) (p q r u : Nat) (hv : okS v) (hp : p < 60) (hq : q < 60) (hr : r < 60) (hu : u < 60) : Met l yX0_isCrossing wsX0_isCrossing ({ frames := 2, cells := 0, slots := 0, locals := 47 }) (va_Pc [.ref (a 1), .int (nI (p)), .int (nI (q)), .int (nI (r)), .int (nI (u))] (ro_B (dC, dI) vwCl (wS cI cL a v) (tyS cI cL cZ))) (k2_QcV (.int (bI (crs v.1 p q r u)))) 0 0 (fun _ => False) := by
  refine ro_Met (cc := cX0_isCrossing) (maxL := 5) (ret := (some .boolean)) (by decide) rfl (Nat.le_of_ble_eq_true rfl) ?_
  intro pr en s m below meth co ls hx hb hml hr hlocks hown hts hP hK hl
  have hl : lv_has ls 5 [(0, .ref (a 1)), (1, .int (nI (p))), (2, .int (nI (q))), (3, .int (nI (r))), (4, .int (nI (u)))] := hl
  have hown : s.vm.findClass RX0 = some m.cls := hown
  have hvp : sPn v ≤ 60 ∧ sTn v ≤ 60 ∧ sTm v ≤ 200 := ⟨hv.2.1, hv.2.2.2.1, hv.2.2.2.2.1⟩
  refine lv_aload_n hx hb dX0_isCrossing_0 rfl (lv_at hl 0 rfl) ?_
  refine lv_iload_n hx hb dX0_isCrossing_1 rfl (lv_at hl 1 rfl) ?_
  refine lv_iload_n hx hb dX0_isCrossing_2 rfl (lv_at hl 2 rfl) ?_
  refine lv_iload_n hx hb dX0_isCrossing_3 rfl (lv_at hl 3 rfl) ?_
  refine ro_V (As := [.int (nI (p)), .int (nI (q)), .int (nI (r))]) (rest := []) (q0 := 1) (ci := 0) hx hb hml hown hts (c_X0_turnOf l dC dI cI cL cZ a v p q r (by omega) (by omega) (by omega)) (cwV 3 hts gX0_isCrossing_X0_turnOf rfl rfl rfl (by decide +kernel) ⟨Nat.le_of_ble_eq_true rfl, Nat.le_of_ble_eq_true rfl⟩) hK hP rfl rfl rfl hl.1 rfl (Nat.le_of_ble_eq_true rfl) dX0_isCrossing_4 ⟨Nat.zero_le _, Nat.zero_le _⟩ ?_
  refine lv_aload_n hx hb dX0_isCrossing_7 rfl (lv_at hl 0 rfl) ?_
  refine lv_iload_n hx hb dX0_isCrossing_8 rfl (lv_at hl 1 rfl) ?_
  refine lv_iload_n hx hb dX0_isCrossing_9 rfl (lv_at hl 2 rfl) ?_
  refine lv_iload hx hb dX0_isCrossing_10 (lv_at hl 4 rfl) ?_
  refine ro_V (As := [.int (nI (p)), .int (nI (q)), .int (nI (u))]) (rest := [.int (iI (tof v.1 p q r))]) (q0 := 1) (ci := 0) hx hb hml hown hts (c_X0_turnOf l dC dI cI cL cZ a v p q u (by omega) (by omega) (by omega)) (cwV 3 hts gX0_isCrossing_X0_turnOf rfl rfl rfl (by decide +kernel) ⟨Nat.le_of_ble_eq_true rfl, Nat.le_of_ble_eq_true rfl⟩) hK hP rfl rfl rfl hl.1 rfl (Nat.le_of_ble_eq_true rfl) dX0_isCrossing_12 ⟨Nat.zero_le _, Nat.zero_le _⟩ ?_
  refine ro_S (As := [.int (iI (tof v.1 p q r)), .int (iI (tof v.1 p q u))]) (rest := []) hx hb hml hown hts (c_X0_areOpposite l dC dI  (tof v.1 p q r) (tof v.1 p q u) (tof_ok hv.1) (tof_ok hv.1)) (va_cwS 2 hts gX0_isCrossing_X0_areOpposite rfl rfl rfl (by decide +kernel) ⟨Nat.le_of_ble_eq_true rfl, Nat.le_of_ble_eq_true rfl⟩) (hK.sub [] rfl) (hP.sub [] rfl) rfl hl.1 rfl (Nat.le_of_ble_eq_true rfl) dX0_isCrossing_15 ⟨Nat.zero_le _, Nat.zero_le _⟩ ?_
  refine lv_if_eq (tgt := 47) hx hb dX0_isCrossing_18 (by decide) (fun c_1 => ?_) (fun c_1 => ?_)
  · skip
    have c_1 : (opp (tof v.1 p q r) (tof v.1 p q u)) = false := bI_f c_1
    refine lv_iconst (v := nI (0)) hx hb dX0_isCrossing_47 (by decide) ?_
    exact ro_zret hx hb hr (by decide) (rb_0 (by simp [crs, c_1])) dX0_isCrossing_48 hlocks
  · skip
    have c_1 : (opp (tof v.1 p q r) (tof v.1 p q u)) = true := bI_t c_1
    refine lv_aload_n hx hb dX0_isCrossing_21 rfl (lv_at hl 0 rfl) ?_
    refine lv_iload_n hx hb dX0_isCrossing_22 rfl (lv_at hl 3 rfl) ?_
    refine lv_iload hx hb dX0_isCrossing_23 (lv_at hl 4 rfl) ?_
    refine lv_iload_n hx hb dX0_isCrossing_25 rfl (lv_at hl 1 rfl) ?_
    refine ro_V (As := [.int (nI (r)), .int (nI (u)), .int (nI (p))]) (rest := []) (q0 := 1) (ci := 0) hx hb hml hown hts (c_X0_turnOf l dC dI cI cL cZ a v r u p (by omega) (by omega) (by omega)) (cwV 3 hts gX0_isCrossing_X0_turnOf rfl rfl rfl (by decide +kernel) ⟨Nat.le_of_ble_eq_true rfl, Nat.le_of_ble_eq_true rfl⟩) hK hP rfl rfl rfl hl.1 rfl (Nat.le_of_ble_eq_true rfl) dX0_isCrossing_26 ⟨Nat.zero_le _, Nat.zero_le _⟩ ?_
    refine lv_aload_n hx hb dX0_isCrossing_29 rfl (lv_at hl 0 rfl) ?_
    refine lv_iload_n hx hb dX0_isCrossing_30 rfl (lv_at hl 3 rfl) ?_
    refine lv_iload hx hb dX0_isCrossing_31 (lv_at hl 4 rfl) ?_
    refine lv_iload_n hx hb dX0_isCrossing_33 rfl (lv_at hl 2 rfl) ?_
    refine ro_V (As := [.int (nI (r)), .int (nI (u)), .int (nI (q))]) (rest := [.int (iI (tof v.1 r u p))]) (q0 := 1) (ci := 0) hx hb hml hown hts (c_X0_turnOf l dC dI cI cL cZ a v r u q (by omega) (by omega) (by omega)) (cwV 3 hts gX0_isCrossing_X0_turnOf rfl rfl rfl (by decide +kernel) ⟨Nat.le_of_ble_eq_true rfl, Nat.le_of_ble_eq_true rfl⟩) hK hP rfl rfl rfl hl.1 rfl (Nat.le_of_ble_eq_true rfl) dX0_isCrossing_34 ⟨Nat.zero_le _, Nat.zero_le _⟩ ?_
    refine ro_S (As := [.int (iI (tof v.1 r u p)), .int (iI (tof v.1 r u q))]) (rest := []) hx hb hml hown hts (c_X0_areOpposite l dC dI  (tof v.1 r u p) (tof v.1 r u q) (tof_ok hv.1) (tof_ok hv.1)) (va_cwS 2 hts gX0_isCrossing_X0_areOpposite rfl rfl rfl (by decide +kernel) ⟨Nat.le_of_ble_eq_true rfl, Nat.le_of_ble_eq_true rfl⟩) (hK.sub [] rfl) (hP.sub [] rfl) rfl hl.1 rfl (Nat.le_of_ble_eq_true rfl) dX0_isCrossing_37 ⟨Nat.zero_le _, Nat.zero_le _⟩ ?_
    refine lv_if_eq (tgt := 47) hx hb dX0_isCrossing_40 (by decide) (fun c_2 => ?_) (fun c_2 => ?_)
    · skip
      have c_2 : (opp (tof v.1 r u p) (tof v.1 r u q)) = false := bI_f c_2
      refine lv_iconst (v := nI (0)) hx hb dX0_isCrossing_47 (by decide) ?_
      exact ro_zret hx hb hr (by decide) (rb_0 (by simp [crs, c_1, c_2])) dX0_isCrossing_48 hlocks
    · skip
      have c_2 : (opp (tof v.1 r u p) (tof v.1 r u q)) = true := bI_t c_2
      refine lv_iconst (v := nI (1)) hx hb dX0_isCrossing_43 (by decide) ?_
      refine lv_goto (tgt := 48) hx hb dX0_isCrossing_44 (by decide) ?_
      exact ro_zret hx hb hr (by decide) (rb_1 (by simp [crs, c_1, c_2])) dX0_isCrossing_48 hlocks
set_option maxHeartbeats 4000000 in
set_option maxRecDepth 100000 in
theorem c_X1_came (l : Launch) (dC : Nat → ClassId) (dI : Nat → Nat → Nat) (cI cL cZ : ClassId) (a : Nat → Nat) (v : SV)   : Met l yX1_came wsX1_came ({ frames := 0, cells := 0, slots := 0, locals := 0 }) (va_Pc [.ref (a 4)] (ro_B (dC, dI) vwCl (wS cI cL a v) (tyS cI cL cZ))) (k2_QcV (.int (nI (sTm v)))) 0 0 (fun _ => False) := by
  refine ro_Met (cc := cX1_came) (maxL := 1) (ret := (some .int)) (by decide) rfl (Nat.le_of_ble_eq_true rfl) ?_
  intro pr en s m below meth co ls hx hb hml hr hlocks hown hts hP hK hl
  have hl : lv_has ls 1 [(0, .ref (a 4))] := hl
  have hown : s.vm.findClass RX1 = some m.cls := hown
  refine lv_aload_n hx hb dX1_came_0 rfl (lv_at hl 0 rfl) ?_
  refine va_get (D := (dC, dI)) (ci := 1) (v := .int (nI (sTm v))) (C := RX1) (T := TX1) (N := 4) hx hb hts (by decide +kernel) hown hK hP 4 rfl rfl 3 (by decide) (hts (.fieldLink RX1 22 "TriangleSheet$Triangles" "came" "I") (by decide +kernel)) (fun _ h9 => h9) rfl dX1_came_1 ?_
  exact ro_iret hx hb hr rfl dX1_came_4 hlocks
set_option maxHeartbeats 4000000 in
set_option maxRecDepth 100000 in
theorem c_X1_thereCount (l : Launch) (dC : Nat → ClassId) (dI : Nat → Nat → Nat) (cI cL cZ : ClassId) (a : Nat → Nat) (v : SV)   : Met l yX1_thereCount wsX1_thereCount ({ frames := 0, cells := 0, slots := 0, locals := 0 }) (va_Pc [.ref (a 4)] (ro_B (dC, dI) vwCl (wS cI cL a v) (tyS cI cL cZ))) (k2_QcV (.int (nI (sTn v)))) 0 0 (fun _ => False) := by
  refine ro_Met (cc := cX1_thereCount) (maxL := 1) (ret := (some .int)) (by decide) rfl (Nat.le_of_ble_eq_true rfl) ?_
  intro pr en s m below meth co ls hx hb hml hr hlocks hown hts hP hK hl
  have hl : lv_has ls 1 [(0, .ref (a 4))] := hl
  have hown : s.vm.findClass RX1 = some m.cls := hown
  refine lv_aload_n hx hb dX1_thereCount_0 rfl (lv_at hl 0 rfl) ?_
  refine va_get (D := (dC, dI)) (ci := 1) (v := .int (nI (sTn v))) (C := RX1) (T := TX1) (N := 4) hx hb hts (by decide +kernel) hown hK hP 4 rfl rfl 2 (by decide) (hts (.fieldLink RX1 18 "TriangleSheet$Triangles" "thereCount" "I") (by decide +kernel)) (fun _ h9 => h9) rfl dX1_thereCount_1 ?_
  exact ro_iret hx hb hr rfl dX1_thereCount_4 hlocks
set_option maxHeartbeats 4000000 in
set_option maxRecDepth 100000 in
theorem c_X1_numberAt (l : Launch) (dC : Nat → ClassId) (dI : Nat → Nat → Nat) (cI cL cZ : ClassId) (a : Nat → Nat) (v : SV) (i : Nat) (hi : i < 60) : Met l yX1_numberAt wsX1_numberAt ({ frames := 0, cells := 0, slots := 0, locals := 0 }) (va_Pc [.ref (a 4), .int (nI (i))] (ro_B (dC, dI) vwCl (wS cI cL a v) (tyS cI cL cZ))) (k2_QcV (.int (nI (sTh v i)))) 0 0 (fun _ => False) := by
  refine ro_Met (cc := cX1_numberAt) (maxL := 2) (ret := (some .int)) (by decide) rfl (Nat.le_of_ble_eq_true rfl) ?_
  intro pr en s m below meth co ls hx hb hml hr hlocks hown hts hP hK hl
  have hl : lv_has ls 2 [(0, .ref (a 4)), (1, .int (nI (i)))] := hl
  have hown : s.vm.findClass RX1 = some m.cls := hown
  refine lv_aload_n hx hb dX1_numberAt_0 rfl (lv_at hl 0 rfl) ?_
  refine va_get (D := (dC, dI)) (ci := 1) (v := .ref (a 6)) (C := RX1) (T := TX1) (N := 4) hx hb hts (by decide +kernel) hown hK hP 4 rfl rfl 1 (by decide) (hts (.fieldLink RX1 15 "TriangleSheet$Triangles" "there" "[I") (by decide +kernel)) (fun _ h9 => h9) rfl dX1_numberAt_1 ?_
  refine lv_iload_n hx hb dX1_numberAt_4 rfl (lv_at hl 1 rfl) ?_
  refine ia_ld (k := i) hx hb hK hP 6 0 rfl rfl (by omega) (by decide) dX1_numberAt_5 ?_
  refine W.eq (g2 := F0 m 6 ls [.int (nI (sTh v (i)))]) rfl ?_
  exact ro_iret hx hb hr rfl dX1_numberAt_6 hlocks
set_option maxHeartbeats 4000000 in
set_option maxRecDepth 100000 in
theorem c_X1_isThere (l : Launch) (dC : Nat → ClassId) (dI : Nat → Nat → Nat) (cI cL cZ : ClassId) (a : Nat → Nat) (v : SV) (t : Int32) (hv : okS v) : Met l yX1_isThere wsX1_isThere ({ frames := 0, cells := 0, slots := 0, locals := 0 }) (va_Pc [.ref (a 4), .int (t)] (ro_B (dC, dI) vwCl (wS cI cL a v) (tyS cI cL cZ))) (k2_QcV (.int (bI (thB (sTh v) (sTn v) t)))) 0 0 (fun _ => False) := by
  refine ro_Met (cc := cX1_isThere) (maxL := 3) (ret := (some .boolean)) (by decide) rfl (Nat.le_of_ble_eq_true rfl) ?_
  intro pr en s m below meth co ls hx hb hml hr hlocks hown hts hP hK hl
  have hl : lv_has ls 3 [(0, .ref (a 4)), (1, .int (t))] := hl
  have hown : s.vm.findClass RX1 = some m.cls := hown
  have hvp : sPn v ≤ 60 ∧ sTn v ≤ 60 ∧ sTm v ≤ 200 := ⟨hv.2.1, hv.2.2.2.1, hv.2.2.2.2.1⟩
  refine lv_iconst (v := nI (0)) hx hb dX1_isThere_0 (by decide) ?_
  refine lv_istore_n (lv' := [(2, .int (nI (0))), (0, .ref (a 4)), (1, .int (t))]) hx hb dX1_isThere_1 rfl hl (by decide) rfl (fun ls hl => ?_)
  refine lp (σ := Nat) (LV := fun n => [(0, .ref (a 4)), (1, .int (t)), (2, .int (nI (n)))]) (I := fun k n => n + k = sTn v ∧ fnd (fun i => decide (nI (sTh v i) = t)) (sTn v) 0 = fnd (fun i => decide (nI (sTh v i) = t)) k n) (fun k n ls hI_k hl ih_k => ?_) (sTn v) (0) ls ⟨by omega, rfl⟩ (lv_sub hl [1, 2, 0] rfl)
  obtain ⟨hk, hi⟩ := hI_k
  refine lv_iload_n hx hb dX1_isThere_2 rfl (lv_at hl 2 rfl) ?_
  refine lv_aload_n hx hb dX1_isThere_3 rfl (lv_at hl 0 rfl) ?_
  refine va_get (D := (dC, dI)) (ci := 1) (v := .int (nI (sTn v))) (C := RX1) (T := TX1) (N := 4) hx hb hts (by decide +kernel) hown hK hP 4 rfl rfl 2 (by decide) (hts (.fieldLink RX1 18 "TriangleSheet$Triangles" "thereCount" "I") (by decide +kernel)) (fun _ h9 => h9) rfl dX1_isThere_4 ?_
  refine lv_icmp_ge (tgt := 28) hx hb dX1_isThere_7 (by decide) (fun c_1 => ?_) (fun c_1 => ?_)
  · skip
    have c_1 : sTn v ≤ n := (nI_leI (a := sTn v) (b := n) (by omega) (by omega)).mp c_1
    refine lv_iconst (v := nI (0)) hx hb dX1_isThere_28 (by decide) ?_
    exact ro_zret hx hb hr (by decide) (rb_0 (by rw [thB, hi, show k = 0 by omega]; rfl)) dX1_isThere_29 hlocks
  · skip
    have c_1 : ¬ (sTn v ≤ n) := fun hq9 => c_1 ((nI_leI (a := sTn v) (b := n) (by omega) (by omega)).mpr hq9)
    refine lv_aload_n hx hb dX1_isThere_10 rfl (lv_at hl 0 rfl) ?_
    refine va_get (D := (dC, dI)) (ci := 1) (v := .ref (a 6)) (C := RX1) (T := TX1) (N := 4) hx hb hts (by decide +kernel) hown hK hP 4 rfl rfl 1 (by decide) (hts (.fieldLink RX1 15 "TriangleSheet$Triangles" "there" "[I") (by decide +kernel)) (fun _ h9 => h9) rfl dX1_isThere_11 ?_
    refine lv_iload_n hx hb dX1_isThere_14 rfl (lv_at hl 2 rfl) ?_
    refine ia_ld (k := n) hx hb hK hP 6 0 rfl rfl (by omega) (by decide) dX1_isThere_15 ?_
    refine W.eq (g2 := F0 m 16 ls [.int (nI (sTh v (n)))]) rfl ?_
    have bd_2 := hv.2.2.1 (n)
    refine lv_iload_n hx hb dX1_isThere_16 rfl (lv_at hl 1 rfl) ?_
    refine lv_icmp_ne (tgt := 22) hx hb dX1_isThere_17 (by decide) (fun c_3 => ?_) (fun c_3 => ?_)
    · skip
      refine lv_iinc (v := nI (n + 1)) (lv' := [(2, .int (nI (n + 1))), (0, .ref (a 4)), (1, .int (t))]) hx hb dX1_isThere_22 hl (k := 2) rfl (nI_1 (n)) (by decide) rfl (fun ls hl => ?_)
      refine lv_goto (tgt := 2) hx hb dX1_isThere_25 (by decide) ?_
      exact ih_k (k - 1) (n + 1) ls (by omega) ⟨by omega, hi.trans (fnd_miss (by omega) (by simp [c_1, c_3]))⟩ (lv_sub hl [1, 2, 0] rfl)
    · skip
      refine lv_iconst (v := nI (1)) hx hb dX1_isThere_20 (by decide) ?_
      exact ro_zret hx hb hr (by decide) (rb_1 (by rw [thB, hi, fnd_hit (by omega) (by simp [c_1, c_3])]; rfl)) dX1_isThere_21 hlocks
set_option maxHeartbeats 4000000 in
set_option maxRecDepth 100000 in
theorem c_X1_canAdd (l : Launch) (dC : Nat → ClassId) (dI : Nat → Nat → Nat) (cI cL cZ : ClassId) (a : Nat → Nat) (v : SV) (j : Nat) (hv : okS v) (hj : j ≤ 2) : Met l yX1_canAdd wsX1_canAdd ({ frames := 0, cells := 0, slots := 0, locals := 0 }) (va_Pc [.ref (a 4), .int (nI (j))] (ro_B (dC, dI) vwCl (wS cI cL a v) (tyS cI cL cZ))) (k2_QcV (.int (bI (decide (sTn v + j ≤ 60) && decide (sTm v + j ≤ 200))))) 0 0 (fun _ => False) := by
  refine ro_Met (cc := cX1_canAdd) (maxL := 2) (ret := (some .boolean)) (by decide) rfl (Nat.le_of_ble_eq_true rfl) ?_
  intro pr en s m below meth co ls hx hb hml hr hlocks hown hts hP hK hl
  have hl : lv_has ls 2 [(0, .ref (a 4)), (1, .int (nI (j)))] := hl
  have hown : s.vm.findClass RX1 = some m.cls := hown
  have hvp : sPn v ≤ 60 ∧ sTn v ≤ 60 ∧ sTm v ≤ 200 := ⟨hv.2.1, hv.2.2.2.1, hv.2.2.2.2.1⟩
  refine lv_aload_n hx hb dX1_canAdd_0 rfl (lv_at hl 0 rfl) ?_
  refine va_get (D := (dC, dI)) (ci := 1) (v := .int (nI (sTn v))) (C := RX1) (T := TX1) (N := 4) hx hb hts (by decide +kernel) hown hK hP 4 rfl rfl 2 (by decide) (hts (.fieldLink RX1 18 "TriangleSheet$Triangles" "thereCount" "I") (by decide +kernel)) (fun _ h9 => h9) rfl dX1_canAdd_1 ?_
  refine lv_iload_n hx hb dX1_canAdd_4 rfl (lv_at hl 1 rfl) ?_
  refine lv_iadd hx hb dX1_canAdd_5 ?_
  refine rt_i (y := (nI (sTn v + j))) (nn_add (sTn v) (j)) ?_
  refine lv_bipush (v := nI (60)) hx hb dX1_canAdd_6 (by decide) ?_
  refine lv_icmp_gt (tgt := 27) hx hb dX1_canAdd_8 (by decide) (fun c_1 => ?_) (fun c_1 => ?_)
  · skip
    have c_1 : 60 < sTn v + j := (nI_ltI (a := 60) (b := sTn v + j) (by omega) (by omega)).mp c_1
    refine lv_iconst (v := nI (0)) hx hb dX1_canAdd_27 (by decide) ?_
    exact ro_zret hx hb hr (by decide) (rb_0 (by simp; omega)) dX1_canAdd_28 hlocks
  · skip
    have c_1 : ¬ (60 < sTn v + j) := fun hq9 => c_1 ((nI_ltI (a := 60) (b := sTn v + j) (by omega) (by omega)).mpr hq9)
    refine lv_aload_n hx hb dX1_canAdd_11 rfl (lv_at hl 0 rfl) ?_
    refine va_get (D := (dC, dI)) (ci := 1) (v := .int (nI (sTm v))) (C := RX1) (T := TX1) (N := 4) hx hb hts (by decide +kernel) hown hK hP 4 rfl rfl 3 (by decide) (hts (.fieldLink RX1 22 "TriangleSheet$Triangles" "came" "I") (by decide +kernel)) (fun _ h9 => h9) rfl dX1_canAdd_12 ?_
    refine lv_iload_n hx hb dX1_canAdd_15 rfl (lv_at hl 1 rfl) ?_
    refine lv_iadd hx hb dX1_canAdd_16 ?_
    refine rt_i (y := (nI (sTm v + j))) (nn_add (sTm v) (j)) ?_
    refine lv_sipush (v := nI (200)) hx hb dX1_canAdd_17 (by decide) ?_
    refine lv_icmp_gt (tgt := 27) hx hb dX1_canAdd_20 (by decide) (fun c_2 => ?_) (fun c_2 => ?_)
    · skip
      have c_2 : 200 < sTm v + j := (nI_ltI (a := 200) (b := sTm v + j) (by omega) (by omega)).mp c_2
      refine lv_iconst (v := nI (0)) hx hb dX1_canAdd_27 (by decide) ?_
      exact ro_zret hx hb hr (by decide) (rb_0 (by simp; omega)) dX1_canAdd_28 hlocks
    · skip
      have c_2 : ¬ (200 < sTm v + j) := fun hq9 => c_2 ((nI_ltI (a := 200) (b := sTm v + j) (by omega) (by omega)).mpr hq9)
      refine lv_iconst (v := nI (1)) hx hb dX1_canAdd_23 (by decide) ?_
      refine lv_goto (tgt := 28) hx hb dX1_canAdd_24 (by decide) ?_
      exact ro_zret hx hb hr (by decide) (rb_1 (by simp; omega)) dX1_canAdd_28 hlocks
set_option maxHeartbeats 4000000 in
set_option maxRecDepth 100000 in
theorem c_X1_cornerOf (l : Launch) (dC : Nat → ClassId) (dI : Nat → Nat → Nat) (cI cL cZ : ClassId) (a : Nat → Nat) (v : SV) (t k : Nat) (ht : t < 200) (hk : k < 5) : Met l yX1_cornerOf wsX1_cornerOf ({ frames := 0, cells := 0, slots := 0, locals := 0 }) (va_Pc [.ref (a 4), .int (nI (t)), .int (nI (k))] (ro_B (dC, dI) vwCl (wS cI cL a v) (tyS cI cL cZ))) (k2_QcV (.int (nI (gc v.1 t k)))) 0 0 (fun _ => False) := by
  refine ro_Met (cc := cX1_cornerOf) (maxL := 3) (ret := (some .int)) (by decide) rfl (Nat.le_of_ble_eq_true rfl) ?_
  intro pr en s m below meth co ls hx hb hml hr hlocks hown hts hP hK hl
  have hl : lv_has ls 3 [(0, .ref (a 4)), (1, .int (nI (t))), (2, .int (nI (k)))] := hl
  have hown : s.vm.findClass RX1 = some m.cls := hown
  refine lv_aload_n hx hb dX1_cornerOf_0 rfl (lv_at hl 0 rfl) ?_
  refine va_get (D := (dC, dI)) (ci := 1) (v := .ref (a 5)) (C := RX1) (T := TX1) (N := 4) hx hb hts (by decide +kernel) hown hK hP 4 rfl rfl 0 (by decide) (hts (.fieldLink RX1 9 "TriangleSheet$Triangles" "corners" "[I") (by decide +kernel)) (fun _ h9 => h9) rfl dX1_cornerOf_1 ?_
  refine lv_iconst (v := nI (3)) hx hb dX1_cornerOf_4 (by decide) ?_
  refine lv_iload_n hx hb dX1_cornerOf_5 rfl (lv_at hl 1 rfl) ?_
  refine lv_imul hx hb dX1_cornerOf_6 ?_
  refine rt_i (y := (nI ((3) * (t)))) (nn_mul (3) (t)) ?_
  refine lv_iload_n hx hb dX1_cornerOf_7 rfl (lv_at hl 2 rfl) ?_
  refine lv_iconst (v := nI (3)) hx hb dX1_cornerOf_8 (by decide) ?_
  refine lv_irem hx hb dX1_cornerOf_9 (by decide) ?_
  refine rt_i (y := (nI ((k) % 3))) (pk_rem (by omega) (by decide) (by decide)) ?_
  refine lv_iadd hx hb dX1_cornerOf_10 ?_
  refine rt_i (y := (nI ((3) * (t) + (k) % 3))) (nn_add ((3) * (t)) ((k) % 3)) ?_
  refine ia_ld (k := (3) * (t) + (k) % 3) hx hb hK hP 5 0 rfl rfl (by omega) (by decide) dX1_cornerOf_11 ?_
  refine W.eq (g2 := F0 m 12 ls [.int (nI (v.1.2.2 ((3) * (t) + (k) % 3)))]) rfl ?_
  exact ro_iret hx hb hr rfl dX1_cornerOf_12 hlocks
set_option maxHeartbeats 4000000 in
set_option maxRecDepth 100000 in
theorem c_X1_hasCorner (l : Launch) (dC : Nat → ClassId) (dI : Nat → Nat → Nat) (cI cL cZ : ClassId) (a : Nat → Nat) (v : SV) (t q : Nat) (hv : okS v) (ht : t < 200) (hq : q < 60) : Met l yX1_hasCorner wsX1_hasCorner ({ frames := 0, cells := 0, slots := 0, locals := 0 }) (va_Pc [.ref (a 4), .int (nI (t)), .int (nI (q))] (ro_B (dC, dI) vwCl (wS cI cL a v) (tyS cI cL cZ))) (k2_QcV (.int (bI (hcr v.1 t q)))) 0 0 (fun _ => False) := by
  refine ro_Met (cc := cX1_hasCorner) (maxL := 3) (ret := (some .boolean)) (by decide) rfl (Nat.le_of_ble_eq_true rfl) ?_
  intro pr en s m below meth co ls hx hb hml hr hlocks hown hts hP hK hl
  have hl : lv_has ls 3 [(0, .ref (a 4)), (1, .int (nI (t))), (2, .int (nI (q)))] := hl
  have hown : s.vm.findClass RX1 = some m.cls := hown
  have hvp : sPn v ≤ 60 ∧ sTn v ≤ 60 ∧ sTm v ≤ 200 := ⟨hv.2.1, hv.2.2.2.1, hv.2.2.2.2.1⟩
  refine lv_aload_n hx hb dX1_hasCorner_0 rfl (lv_at hl 0 rfl) ?_
  refine va_get (D := (dC, dI)) (ci := 1) (v := .ref (a 5)) (C := RX1) (T := TX1) (N := 4) hx hb hts (by decide +kernel) hown hK hP 4 rfl rfl 0 (by decide) (hts (.fieldLink RX1 9 "TriangleSheet$Triangles" "corners" "[I") (by decide +kernel)) (fun _ h9 => h9) rfl dX1_hasCorner_1 ?_
  refine lv_iconst (v := nI (3)) hx hb dX1_hasCorner_4 (by decide) ?_
  refine lv_iload_n hx hb dX1_hasCorner_5 rfl (lv_at hl 1 rfl) ?_
  refine lv_imul hx hb dX1_hasCorner_6 ?_
  refine rt_i (y := (nI ((3) * (t)))) (nn_mul (3) (t)) ?_
  refine ia_ld (k := (3) * (t)) hx hb hK hP 5 0 rfl rfl (by omega) (by decide) dX1_hasCorner_7 ?_
  refine W.eq (g2 := F0 m 8 ls [.int (nI (v.1.2.2 ((3) * (t))))]) rfl ?_
  have bd_1 := hv.1.2.2 ((3) * (t))
  refine lv_iload_n hx hb dX1_hasCorner_8 rfl (lv_at hl 2 rfl) ?_
  refine lv_icmp_eq (tgt := 40) hx hb dX1_hasCorner_9 (by decide) (fun c_2 => ?_) (fun c_2 => ?_)
  · skip
    have c_2 : v.1.2.2 ((3) * (t)) = q := (nI_eq (a := v.1.2.2 ((3) * (t))) (b := q) (by omega) (by omega)).mp c_2
    refine lv_iconst (v := nI (1)) hx hb dX1_hasCorner_40 (by decide) ?_
    refine lv_goto (tgt := 45) hx hb dX1_hasCorner_41 (by decide) ?_
    exact ro_zret hx hb hr (by decide) (rb_1 (by show (decide (v.1.2.2 (3 * t) = q) || (decide (v.1.2.2 (3 * t + 1) = q) || decide (v.1.2.2 (3 * t + 2) = q))) = true; first | (simp [c_2]; done) | (simp; omega) | (simp [c_2]; omega))) dX1_hasCorner_45 hlocks
  · skip
    have c_2 : ¬ (v.1.2.2 ((3) * (t)) = q) := fun hq9 => c_2 ((nI_eq (a := v.1.2.2 ((3) * (t))) (b := q) (by omega) (by omega)).mpr hq9)
    refine lv_aload_n hx hb dX1_hasCorner_12 rfl (lv_at hl 0 rfl) ?_
    refine va_get (D := (dC, dI)) (ci := 1) (v := .ref (a 5)) (C := RX1) (T := TX1) (N := 4) hx hb hts (by decide +kernel) hown hK hP 4 rfl rfl 0 (by decide) (hts (.fieldLink RX1 9 "TriangleSheet$Triangles" "corners" "[I") (by decide +kernel)) (fun _ h9 => h9) rfl dX1_hasCorner_13 ?_
    refine lv_iconst (v := nI (3)) hx hb dX1_hasCorner_16 (by decide) ?_
    refine lv_iload_n hx hb dX1_hasCorner_17 rfl (lv_at hl 1 rfl) ?_
    refine lv_imul hx hb dX1_hasCorner_18 ?_
    refine rt_i (y := (nI ((3) * (t)))) (nn_mul (3) (t)) ?_
    refine lv_iconst (v := nI (1)) hx hb dX1_hasCorner_19 (by decide) ?_
    refine lv_iadd hx hb dX1_hasCorner_20 ?_
    refine rt_i (y := (nI ((3) * (t) + 1))) (nn_add ((3) * (t)) (1)) ?_
    refine ia_ld (k := (3) * (t) + 1) hx hb hK hP 5 0 rfl rfl (by omega) (by decide) dX1_hasCorner_21 ?_
    refine W.eq (g2 := F0 m 22 ls [.int (nI (v.1.2.2 ((3) * (t) + 1)))]) rfl ?_
    have bd_3 := hv.1.2.2 ((3) * (t) + 1)
    refine lv_iload_n hx hb dX1_hasCorner_22 rfl (lv_at hl 2 rfl) ?_
    refine lv_icmp_eq (tgt := 40) hx hb dX1_hasCorner_23 (by decide) (fun c_4 => ?_) (fun c_4 => ?_)
    · skip
      have c_4 : v.1.2.2 ((3) * (t) + 1) = q := (nI_eq (a := v.1.2.2 ((3) * (t) + 1)) (b := q) (by omega) (by omega)).mp c_4
      refine lv_iconst (v := nI (1)) hx hb dX1_hasCorner_40 (by decide) ?_
      refine lv_goto (tgt := 45) hx hb dX1_hasCorner_41 (by decide) ?_
      exact ro_zret hx hb hr (by decide) (rb_1 (by show (decide (v.1.2.2 (3 * t) = q) || (decide (v.1.2.2 (3 * t + 1) = q) || decide (v.1.2.2 (3 * t + 2) = q))) = true; first | (simp [c_2, c_4]; done) | (simp; omega) | (simp [c_2, c_4]; omega))) dX1_hasCorner_45 hlocks
    · skip
      have c_4 : ¬ (v.1.2.2 ((3) * (t) + 1) = q) := fun hq9 => c_4 ((nI_eq (a := v.1.2.2 ((3) * (t) + 1)) (b := q) (by omega) (by omega)).mpr hq9)
      refine lv_aload_n hx hb dX1_hasCorner_26 rfl (lv_at hl 0 rfl) ?_
      refine va_get (D := (dC, dI)) (ci := 1) (v := .ref (a 5)) (C := RX1) (T := TX1) (N := 4) hx hb hts (by decide +kernel) hown hK hP 4 rfl rfl 0 (by decide) (hts (.fieldLink RX1 9 "TriangleSheet$Triangles" "corners" "[I") (by decide +kernel)) (fun _ h9 => h9) rfl dX1_hasCorner_27 ?_
      refine lv_iconst (v := nI (3)) hx hb dX1_hasCorner_30 (by decide) ?_
      refine lv_iload_n hx hb dX1_hasCorner_31 rfl (lv_at hl 1 rfl) ?_
      refine lv_imul hx hb dX1_hasCorner_32 ?_
      refine rt_i (y := (nI ((3) * (t)))) (nn_mul (3) (t)) ?_
      refine lv_iconst (v := nI (2)) hx hb dX1_hasCorner_33 (by decide) ?_
      refine lv_iadd hx hb dX1_hasCorner_34 ?_
      refine rt_i (y := (nI ((3) * (t) + 2))) (nn_add ((3) * (t)) (2)) ?_
      refine ia_ld (k := (3) * (t) + 2) hx hb hK hP 5 0 rfl rfl (by omega) (by decide) dX1_hasCorner_35 ?_
      refine W.eq (g2 := F0 m 36 ls [.int (nI (v.1.2.2 ((3) * (t) + 2)))]) rfl ?_
      have bd_5 := hv.1.2.2 ((3) * (t) + 2)
      refine lv_iload_n hx hb dX1_hasCorner_36 rfl (lv_at hl 2 rfl) ?_
      refine lv_icmp_ne (tgt := 44) hx hb dX1_hasCorner_37 (by decide) (fun c_6 => ?_) (fun c_6 => ?_)
      · skip
        have c_6 : ¬ (v.1.2.2 ((3) * (t) + 2) = q) := fun hq9 => c_6 ((nI_eq (a := v.1.2.2 ((3) * (t) + 2)) (b := q) (by omega) (by omega)).mpr hq9)
        refine lv_iconst (v := nI (0)) hx hb dX1_hasCorner_44 (by decide) ?_
        exact ro_zret hx hb hr (by decide) (rb_0 (by show (decide (v.1.2.2 (3 * t) = q) || (decide (v.1.2.2 (3 * t + 1) = q) || decide (v.1.2.2 (3 * t + 2) = q))) = false; first | (simp [c_2, c_4, c_6]; done) | (simp; omega) | (simp [c_2, c_4, c_6]; omega))) dX1_hasCorner_45 hlocks
      · skip
        have c_6 : v.1.2.2 ((3) * (t) + 2) = q := (nI_eq (a := v.1.2.2 ((3) * (t) + 2)) (b := q) (by omega) (by omega)).mp c_6
        refine lv_iconst (v := nI (1)) hx hb dX1_hasCorner_40 (by decide) ?_
        refine lv_goto (tgt := 45) hx hb dX1_hasCorner_41 (by decide) ?_
        exact ro_zret hx hb hr (by decide) (rb_1 (by show (decide (v.1.2.2 (3 * t) = q) || (decide (v.1.2.2 (3 * t + 1) = q) || decide (v.1.2.2 (3 * t + 2) = q))) = true; first | (simp [c_2, c_4, c_6]; done) | (simp; omega) | (simp [c_2, c_4, c_6]; omega))) dX1_hasCorner_45 hlocks
set_option maxHeartbeats 4000000 in
set_option maxRecDepth 100000 in
theorem c_X1_thirdCorner (l : Launch) (dC : Nat → ClassId) (dI : Nat → Nat → Nat) (cI cL cZ : ClassId) (a : Nat → Nat) (v : SV) (t x y d : Nat) (ht : t < 200) (hd : v.1.2.2 (3 * t) + v.1.2.2 (3 * t + 1) + v.1.2.2 (3 * t + 2) = x + y + d) : Met l yX1_thirdCorner wsX1_thirdCorner ({ frames := 0, cells := 0, slots := 0, locals := 0 }) (va_Pc [.ref (a 4), .int (nI (t)), .int (nI (x)), .int (nI (y))] (ro_B (dC, dI) vwCl (wS cI cL a v) (tyS cI cL cZ))) (k2_QcV (.int (nI (d)))) 0 0 (fun _ => False) := by
  refine ro_Met (cc := cX1_thirdCorner) (maxL := 4) (ret := (some .int)) (by decide) rfl (Nat.le_of_ble_eq_true rfl) ?_
  intro pr en s m below meth co ls hx hb hml hr hlocks hown hts hP hK hl
  have hl : lv_has ls 4 [(0, .ref (a 4)), (1, .int (nI (t))), (2, .int (nI (x))), (3, .int (nI (y)))] := hl
  have hown : s.vm.findClass RX1 = some m.cls := hown
  refine lv_aload_n hx hb dX1_thirdCorner_0 rfl (lv_at hl 0 rfl) ?_
  refine va_get (D := (dC, dI)) (ci := 1) (v := .ref (a 5)) (C := RX1) (T := TX1) (N := 4) hx hb hts (by decide +kernel) hown hK hP 4 rfl rfl 0 (by decide) (hts (.fieldLink RX1 9 "TriangleSheet$Triangles" "corners" "[I") (by decide +kernel)) (fun _ h9 => h9) rfl dX1_thirdCorner_1 ?_
  refine lv_iconst (v := nI (3)) hx hb dX1_thirdCorner_4 (by decide) ?_
  refine lv_iload_n hx hb dX1_thirdCorner_5 rfl (lv_at hl 1 rfl) ?_
  refine lv_imul hx hb dX1_thirdCorner_6 ?_
  refine rt_i (y := (nI ((3) * (t)))) (nn_mul (3) (t)) ?_
  refine ia_ld (k := (3) * (t)) hx hb hK hP 5 0 rfl rfl (by omega) (by decide) dX1_thirdCorner_7 ?_
  refine W.eq (g2 := F0 m 8 ls [.int (nI (v.1.2.2 ((3) * (t))))]) rfl ?_
  refine lv_aload_n hx hb dX1_thirdCorner_8 rfl (lv_at hl 0 rfl) ?_
  refine va_get (D := (dC, dI)) (ci := 1) (v := .ref (a 5)) (C := RX1) (T := TX1) (N := 4) hx hb hts (by decide +kernel) hown hK hP 4 rfl rfl 0 (by decide) (hts (.fieldLink RX1 9 "TriangleSheet$Triangles" "corners" "[I") (by decide +kernel)) (fun _ h9 => h9) rfl dX1_thirdCorner_9 ?_
  refine lv_iconst (v := nI (3)) hx hb dX1_thirdCorner_12 (by decide) ?_
  refine lv_iload_n hx hb dX1_thirdCorner_13 rfl (lv_at hl 1 rfl) ?_
  refine lv_imul hx hb dX1_thirdCorner_14 ?_
  refine rt_i (y := (nI ((3) * (t)))) (nn_mul (3) (t)) ?_
  refine lv_iconst (v := nI (1)) hx hb dX1_thirdCorner_15 (by decide) ?_
  refine lv_iadd hx hb dX1_thirdCorner_16 ?_
  refine rt_i (y := (nI ((3) * (t) + 1))) (nn_add ((3) * (t)) (1)) ?_
  refine ia_ld (k := (3) * (t) + 1) hx hb hK hP 5 0 rfl rfl (by omega) (by decide) dX1_thirdCorner_17 ?_
  refine W.eq (g2 := F0 m 18 ls [.int (nI (v.1.2.2 ((3) * (t) + 1))), .int (nI (v.1.2.2 ((3) * (t))))]) rfl ?_
  refine lv_iadd hx hb dX1_thirdCorner_18 ?_
  refine rt_i (y := (nI (v.1.2.2 ((3) * (t)) + v.1.2.2 ((3) * (t) + 1)))) (nn_add (v.1.2.2 ((3) * (t))) (v.1.2.2 ((3) * (t) + 1))) ?_
  refine lv_aload_n hx hb dX1_thirdCorner_19 rfl (lv_at hl 0 rfl) ?_
  refine va_get (D := (dC, dI)) (ci := 1) (v := .ref (a 5)) (C := RX1) (T := TX1) (N := 4) hx hb hts (by decide +kernel) hown hK hP 4 rfl rfl 0 (by decide) (hts (.fieldLink RX1 9 "TriangleSheet$Triangles" "corners" "[I") (by decide +kernel)) (fun _ h9 => h9) rfl dX1_thirdCorner_20 ?_
  refine lv_iconst (v := nI (3)) hx hb dX1_thirdCorner_23 (by decide) ?_
  refine lv_iload_n hx hb dX1_thirdCorner_24 rfl (lv_at hl 1 rfl) ?_
  refine lv_imul hx hb dX1_thirdCorner_25 ?_
  refine rt_i (y := (nI ((3) * (t)))) (nn_mul (3) (t)) ?_
  refine lv_iconst (v := nI (2)) hx hb dX1_thirdCorner_26 (by decide) ?_
  refine lv_iadd hx hb dX1_thirdCorner_27 ?_
  refine rt_i (y := (nI ((3) * (t) + 2))) (nn_add ((3) * (t)) (2)) ?_
  refine ia_ld (k := (3) * (t) + 2) hx hb hK hP 5 0 rfl rfl (by omega) (by decide) dX1_thirdCorner_28 ?_
  refine W.eq (g2 := F0 m 29 ls [.int (nI (v.1.2.2 ((3) * (t) + 2))), .int (nI (v.1.2.2 ((3) * (t)) + v.1.2.2 ((3) * (t) + 1)))]) rfl ?_
  refine lv_iadd hx hb dX1_thirdCorner_29 ?_
  refine rt_i (y := (nI (v.1.2.2 ((3) * (t)) + v.1.2.2 ((3) * (t) + 1) + v.1.2.2 ((3) * (t) + 2)))) (nn_add (v.1.2.2 ((3) * (t)) + v.1.2.2 ((3) * (t) + 1)) (v.1.2.2 ((3) * (t) + 2))) ?_
  refine lv_iload_n hx hb dX1_thirdCorner_30 rfl (lv_at hl 2 rfl) ?_
  refine lv_isub hx hb dX1_thirdCorner_31 ?_
  refine rt_i (y := (iI ((((v.1.2.2 ((3) * (t)) + v.1.2.2 ((3) * (t) + 1) + v.1.2.2 ((3) * (t) + 2) : Nat) : Int)) - (((x : Nat) : Int))))) (nn_sub (v.1.2.2 ((3) * (t)) + v.1.2.2 ((3) * (t) + 1) + v.1.2.2 ((3) * (t) + 2)) (x)) ?_
  refine lv_iload_n hx hb dX1_thirdCorner_32 rfl (lv_at hl 3 rfl) ?_
  refine lv_isub hx hb dX1_thirdCorner_33 ?_
  refine rt_i (y := (iI (((((v.1.2.2 ((3) * (t)) + v.1.2.2 ((3) * (t) + 1) + v.1.2.2 ((3) * (t) + 2) : Nat) : Int)) - (((x : Nat) : Int))) - (((y : Nat) : Int))))) (zn_sub ((((v.1.2.2 ((3) * (t)) + v.1.2.2 ((3) * (t) + 1) + v.1.2.2 ((3) * (t) + 2) : Nat) : Int)) - (((x : Nat) : Int))) (y)) ?_
  exact ro_iret hx hb hr (congrArg Value.int (by rw [nI_z d]; congr 1; omega)) dX1_thirdCorner_34 hlocks
set_option maxHeartbeats 4000000 in
set_option maxRecDepth 100000 in
theorem c_X1_hasEdge (l : Launch) (dC : Nat → ClassId) (dI : Nat → Nat → Nat) (cI cL cZ : ClassId) (a : Nat → Nat) (v : SV) (t f o : Nat) (hv : okS v) (ht : t < 200) (hf : f < 60) (ho : o < 60) : Met l yX1_hasEdge wsX1_hasEdge ({ frames := 0, cells := 0, slots := 0, locals := 0 }) (va_Pc [.ref (a 4), .int (nI (t)), .int (nI (f)), .int (nI (o))] (ro_B (dC, dI) vwCl (wS cI cL a v) (tyS cI cL cZ))) (k2_QcV (.int (bI (hed v.1 t f o)))) 0 0 (fun _ => False) := by
  refine ro_Met (cc := cX1_hasEdge) (maxL := 7) (ret := (some .boolean)) (by decide) rfl (Nat.le_of_ble_eq_true rfl) ?_
  intro pr en s m below meth co ls hx hb hml hr hlocks hown hts hP hK hl
  have hl : lv_has ls 7 [(0, .ref (a 4)), (1, .int (nI (t))), (2, .int (nI (f))), (3, .int (nI (o)))] := hl
  have hown : s.vm.findClass RX1 = some m.cls := hown
  have hvp : sPn v ≤ 60 ∧ sTn v ≤ 60 ∧ sTm v ≤ 200 := ⟨hv.2.1, hv.2.2.2.1, hv.2.2.2.2.1⟩
  refine lv_aload_n hx hb dX1_hasEdge_0 rfl (lv_at hl 0 rfl) ?_
  refine va_get (D := (dC, dI)) (ci := 1) (v := .ref (a 5)) (C := RX1) (T := TX1) (N := 4) hx hb hts (by decide +kernel) hown hK hP 4 rfl rfl 0 (by decide) (hts (.fieldLink RX1 9 "TriangleSheet$Triangles" "corners" "[I") (by decide +kernel)) (fun _ h9 => h9) rfl dX1_hasEdge_1 ?_
  refine lv_iconst (v := nI (3)) hx hb dX1_hasEdge_4 (by decide) ?_
  refine lv_iload_n hx hb dX1_hasEdge_5 rfl (lv_at hl 1 rfl) ?_
  refine lv_imul hx hb dX1_hasEdge_6 ?_
  refine rt_i (y := (nI ((3) * (t)))) (nn_mul (3) (t)) ?_
  refine ia_ld (k := (3) * (t)) hx hb hK hP 5 0 rfl rfl (by omega) (by decide) dX1_hasEdge_7 ?_
  refine W.eq (g2 := F0 m 8 ls [.int (nI (v.1.2.2 ((3) * (t))))]) rfl ?_
  have bd_1 := hv.1.2.2 ((3) * (t))
  refine lv_istore (lv' := [(4, .int (nI (v.1.2.2 ((3) * (t))))), (0, .ref (a 4)), (1, .int (nI (t))), (2, .int (nI (f))), (3, .int (nI (o)))]) hx hb dX1_hasEdge_8 hl (by decide) rfl (fun ls hl => ?_)
  refine lv_aload_n hx hb dX1_hasEdge_10 rfl (lv_at hl 1 rfl) ?_
  refine va_get (D := (dC, dI)) (ci := 1) (v := .ref (a 5)) (C := RX1) (T := TX1) (N := 4) hx hb hts (by decide +kernel) hown hK hP 4 rfl rfl 0 (by decide) (hts (.fieldLink RX1 9 "TriangleSheet$Triangles" "corners" "[I") (by decide +kernel)) (fun _ h9 => h9) rfl dX1_hasEdge_11 ?_
  refine lv_iconst (v := nI (3)) hx hb dX1_hasEdge_14 (by decide) ?_
  refine lv_iload_n hx hb dX1_hasEdge_15 rfl (lv_at hl 2 rfl) ?_
  refine lv_imul hx hb dX1_hasEdge_16 ?_
  refine rt_i (y := (nI ((3) * (t)))) (nn_mul (3) (t)) ?_
  refine lv_iconst (v := nI (1)) hx hb dX1_hasEdge_17 (by decide) ?_
  refine lv_iadd hx hb dX1_hasEdge_18 ?_
  refine rt_i (y := (nI ((3) * (t) + 1))) (nn_add ((3) * (t)) (1)) ?_
  refine ia_ld (k := (3) * (t) + 1) hx hb hK hP 5 0 rfl rfl (by omega) (by decide) dX1_hasEdge_19 ?_
  refine W.eq (g2 := F0 m 20 ls [.int (nI (v.1.2.2 ((3) * (t) + 1)))]) rfl ?_
  have bd_2 := hv.1.2.2 ((3) * (t) + 1)
  refine lv_istore (lv' := [(5, .int (nI (v.1.2.2 ((3) * (t) + 1)))), (4, .int (nI (v.1.2.2 ((3) * (t))))), (0, .ref (a 4)), (1, .int (nI (t))), (2, .int (nI (f))), (3, .int (nI (o)))]) hx hb dX1_hasEdge_20 hl (by decide) rfl (fun ls hl => ?_)
  refine lv_aload_n hx hb dX1_hasEdge_22 rfl (lv_at hl 2 rfl) ?_
  refine va_get (D := (dC, dI)) (ci := 1) (v := .ref (a 5)) (C := RX1) (T := TX1) (N := 4) hx hb hts (by decide +kernel) hown hK hP 4 rfl rfl 0 (by decide) (hts (.fieldLink RX1 9 "TriangleSheet$Triangles" "corners" "[I") (by decide +kernel)) (fun _ h9 => h9) rfl dX1_hasEdge_23 ?_
  refine lv_iconst (v := nI (3)) hx hb dX1_hasEdge_26 (by decide) ?_
  refine lv_iload_n hx hb dX1_hasEdge_27 rfl (lv_at hl 3 rfl) ?_
  refine lv_imul hx hb dX1_hasEdge_28 ?_
  refine rt_i (y := (nI ((3) * (t)))) (nn_mul (3) (t)) ?_
  refine lv_iconst (v := nI (2)) hx hb dX1_hasEdge_29 (by decide) ?_
  refine lv_iadd hx hb dX1_hasEdge_30 ?_
  refine rt_i (y := (nI ((3) * (t) + 2))) (nn_add ((3) * (t)) (2)) ?_
  refine ia_ld (k := (3) * (t) + 2) hx hb hK hP 5 0 rfl rfl (by omega) (by decide) dX1_hasEdge_31 ?_
  refine W.eq (g2 := F0 m 32 ls [.int (nI (v.1.2.2 ((3) * (t) + 2)))]) rfl ?_
  have bd_3 := hv.1.2.2 ((3) * (t) + 2)
  refine lv_istore (lv' := [(6, .int (nI (v.1.2.2 ((3) * (t) + 2)))), (5, .int (nI (v.1.2.2 ((3) * (t) + 1)))), (4, .int (nI (v.1.2.2 ((3) * (t))))), (0, .ref (a 4)), (1, .int (nI (t))), (2, .int (nI (f))), (3, .int (nI (o)))]) hx hb dX1_hasEdge_32 hl (by decide) rfl (fun ls hl => ?_)
  refine lv_iload hx hb dX1_hasEdge_34 (lv_at hl 2 rfl) ?_
  refine lv_iload_n hx hb dX1_hasEdge_36 rfl (lv_at hl 5 rfl) ?_
  refine lv_icmp_ne (tgt := 46) hx hb dX1_hasEdge_37 (by decide) (fun c_4 => ?_) (fun c_4 => ?_)
  · skip
    have c_4 : ¬ (v.1.2.2 ((3) * (t)) = f) := fun hq9 => c_4 ((nI_eq (a := v.1.2.2 ((3) * (t))) (b := f) (by omega) (by omega)).mpr hq9)
    refine lv_iload hx hb dX1_hasEdge_46 (lv_at hl 1 rfl) ?_
    refine lv_iload_n hx hb dX1_hasEdge_48 rfl (lv_at hl 5 rfl) ?_
    refine lv_icmp_ne (tgt := 58) hx hb dX1_hasEdge_49 (by decide) (fun c_5 => ?_) (fun c_5 => ?_)
    · skip
      have c_5 : ¬ (v.1.2.2 ((3) * (t) + 1) = f) := fun hq9 => c_5 ((nI_eq (a := v.1.2.2 ((3) * (t) + 1)) (b := f) (by omega) (by omega)).mpr hq9)
      refine lv_iload hx hb dX1_hasEdge_58 (lv_at hl 0 rfl) ?_
      refine lv_iload_n hx hb dX1_hasEdge_60 rfl (lv_at hl 5 rfl) ?_
      refine lv_icmp_ne (tgt := 74) hx hb dX1_hasEdge_61 (by decide) (fun c_6 => ?_) (fun c_6 => ?_)
      · skip
        have c_6 : ¬ (v.1.2.2 ((3) * (t) + 2) = f) := fun hq9 => c_6 ((nI_eq (a := v.1.2.2 ((3) * (t) + 2)) (b := f) (by omega) (by omega)).mpr hq9)
        refine lv_iconst (v := nI (0)) hx hb dX1_hasEdge_74 (by decide) ?_
        exact ro_zret hx hb hr (by decide) (rb_0 (by show ((decide (v.1.2.2 (3 * t) = f) && decide (v.1.2.2 (3 * t + 1) = o)) || ((decide (v.1.2.2 (3 * t + 1) = f) && decide (v.1.2.2 (3 * t + 2) = o)) || (decide (v.1.2.2 (3 * t + 2) = f) && decide (v.1.2.2 (3 * t) = o)))) = false; first | (simp [c_4, c_5, c_6]; done) | (simp; omega) | (simp [c_4, c_5, c_6]; omega))) dX1_hasEdge_75 hlocks
      · skip
        have c_6 : v.1.2.2 ((3) * (t) + 2) = f := (nI_eq (a := v.1.2.2 ((3) * (t) + 2)) (b := f) (by omega) (by omega)).mp c_6
        refine lv_iload hx hb dX1_hasEdge_64 (lv_at hl 2 rfl) ?_
        refine lv_iload_n hx hb dX1_hasEdge_66 rfl (lv_at hl 6 rfl) ?_
        refine lv_icmp_ne (tgt := 74) hx hb dX1_hasEdge_67 (by decide) (fun c_7 => ?_) (fun c_7 => ?_)
        · skip
          have c_7 : ¬ (v.1.2.2 ((3) * (t)) = o) := fun hq9 => c_7 ((nI_eq (a := v.1.2.2 ((3) * (t))) (b := o) (by omega) (by omega)).mpr hq9)
          refine lv_iconst (v := nI (0)) hx hb dX1_hasEdge_74 (by decide) ?_
          exact ro_zret hx hb hr (by decide) (rb_0 (by show ((decide (v.1.2.2 (3 * t) = f) && decide (v.1.2.2 (3 * t + 1) = o)) || ((decide (v.1.2.2 (3 * t + 1) = f) && decide (v.1.2.2 (3 * t + 2) = o)) || (decide (v.1.2.2 (3 * t + 2) = f) && decide (v.1.2.2 (3 * t) = o)))) = false; first | (simp [c_4, c_5, c_6, c_7]; done) | (simp; omega) | (simp [c_4, c_5, c_6, c_7]; omega))) dX1_hasEdge_75 hlocks
        · skip
          have c_7 : v.1.2.2 ((3) * (t)) = o := (nI_eq (a := v.1.2.2 ((3) * (t))) (b := o) (by omega) (by omega)).mp c_7
          refine lv_iconst (v := nI (1)) hx hb dX1_hasEdge_70 (by decide) ?_
          refine lv_goto (tgt := 75) hx hb dX1_hasEdge_71 (by decide) ?_
          exact ro_zret hx hb hr (by decide) (rb_1 (by show ((decide (v.1.2.2 (3 * t) = f) && decide (v.1.2.2 (3 * t + 1) = o)) || ((decide (v.1.2.2 (3 * t + 1) = f) && decide (v.1.2.2 (3 * t + 2) = o)) || (decide (v.1.2.2 (3 * t + 2) = f) && decide (v.1.2.2 (3 * t) = o)))) = true; first | (simp [c_4, c_5, c_6, c_7]; done) | (simp; omega) | (simp [c_4, c_5, c_6, c_7]; omega))) dX1_hasEdge_75 hlocks
    · skip
      have c_5 : v.1.2.2 ((3) * (t) + 1) = f := (nI_eq (a := v.1.2.2 ((3) * (t) + 1)) (b := f) (by omega) (by omega)).mp c_5
      refine lv_iload hx hb dX1_hasEdge_52 (lv_at hl 0 rfl) ?_
      refine lv_iload_n hx hb dX1_hasEdge_54 rfl (lv_at hl 6 rfl) ?_
      refine lv_icmp_eq (tgt := 70) hx hb dX1_hasEdge_55 (by decide) (fun c_8 => ?_) (fun c_8 => ?_)
      · skip
        have c_8 : v.1.2.2 ((3) * (t) + 2) = o := (nI_eq (a := v.1.2.2 ((3) * (t) + 2)) (b := o) (by omega) (by omega)).mp c_8
        refine lv_iconst (v := nI (1)) hx hb dX1_hasEdge_70 (by decide) ?_
        refine lv_goto (tgt := 75) hx hb dX1_hasEdge_71 (by decide) ?_
        exact ro_zret hx hb hr (by decide) (rb_1 (by show ((decide (v.1.2.2 (3 * t) = f) && decide (v.1.2.2 (3 * t + 1) = o)) || ((decide (v.1.2.2 (3 * t + 1) = f) && decide (v.1.2.2 (3 * t + 2) = o)) || (decide (v.1.2.2 (3 * t + 2) = f) && decide (v.1.2.2 (3 * t) = o)))) = true; first | (simp [c_4, c_5, c_8]; done) | (simp; omega) | (simp [c_4, c_5, c_8]; omega))) dX1_hasEdge_75 hlocks
      · skip
        have c_8 : ¬ (v.1.2.2 ((3) * (t) + 2) = o) := fun hq9 => c_8 ((nI_eq (a := v.1.2.2 ((3) * (t) + 2)) (b := o) (by omega) (by omega)).mpr hq9)
        refine lv_iload hx hb dX1_hasEdge_58 (lv_at hl 0 rfl) ?_
        refine lv_iload_n hx hb dX1_hasEdge_60 rfl (lv_at hl 5 rfl) ?_
        refine lv_icmp_ne (tgt := 74) hx hb dX1_hasEdge_61 (by decide) (fun c_9 => ?_) (fun c_9 => ?_)
        · skip
          have c_9 : ¬ (v.1.2.2 ((3) * (t) + 2) = f) := fun hq9 => c_9 ((nI_eq (a := v.1.2.2 ((3) * (t) + 2)) (b := f) (by omega) (by omega)).mpr hq9)
          refine lv_iconst (v := nI (0)) hx hb dX1_hasEdge_74 (by decide) ?_
          exact ro_zret hx hb hr (by decide) (rb_0 (by show ((decide (v.1.2.2 (3 * t) = f) && decide (v.1.2.2 (3 * t + 1) = o)) || ((decide (v.1.2.2 (3 * t + 1) = f) && decide (v.1.2.2 (3 * t + 2) = o)) || (decide (v.1.2.2 (3 * t + 2) = f) && decide (v.1.2.2 (3 * t) = o)))) = false; first | (simp [c_4, c_5, c_8, c_9]; done) | (simp; omega) | (simp [c_4, c_5, c_8, c_9]; omega))) dX1_hasEdge_75 hlocks
        · skip
          have c_9 : v.1.2.2 ((3) * (t) + 2) = f := (nI_eq (a := v.1.2.2 ((3) * (t) + 2)) (b := f) (by omega) (by omega)).mp c_9
          refine lv_iload hx hb dX1_hasEdge_64 (lv_at hl 2 rfl) ?_
          refine lv_iload_n hx hb dX1_hasEdge_66 rfl (lv_at hl 6 rfl) ?_
          refine lv_icmp_ne (tgt := 74) hx hb dX1_hasEdge_67 (by decide) (fun c_10 => ?_) (fun c_10 => ?_)
          · skip
            have c_10 : ¬ (v.1.2.2 ((3) * (t)) = o) := fun hq9 => c_10 ((nI_eq (a := v.1.2.2 ((3) * (t))) (b := o) (by omega) (by omega)).mpr hq9)
            refine lv_iconst (v := nI (0)) hx hb dX1_hasEdge_74 (by decide) ?_
            exact ro_zret hx hb hr (by decide) (rb_0 (by show ((decide (v.1.2.2 (3 * t) = f) && decide (v.1.2.2 (3 * t + 1) = o)) || ((decide (v.1.2.2 (3 * t + 1) = f) && decide (v.1.2.2 (3 * t + 2) = o)) || (decide (v.1.2.2 (3 * t + 2) = f) && decide (v.1.2.2 (3 * t) = o)))) = false; first | (simp [c_4, c_5, c_8, c_9, c_10]; done) | (simp; omega) | (simp [c_4, c_5, c_8, c_9, c_10]; omega))) dX1_hasEdge_75 hlocks
          · skip
            have c_10 : v.1.2.2 ((3) * (t)) = o := (nI_eq (a := v.1.2.2 ((3) * (t))) (b := o) (by omega) (by omega)).mp c_10
            refine lv_iconst (v := nI (1)) hx hb dX1_hasEdge_70 (by decide) ?_
            refine lv_goto (tgt := 75) hx hb dX1_hasEdge_71 (by decide) ?_
            exact ro_zret hx hb hr (by decide) (rb_1 (by show ((decide (v.1.2.2 (3 * t) = f) && decide (v.1.2.2 (3 * t + 1) = o)) || ((decide (v.1.2.2 (3 * t + 1) = f) && decide (v.1.2.2 (3 * t + 2) = o)) || (decide (v.1.2.2 (3 * t + 2) = f) && decide (v.1.2.2 (3 * t) = o)))) = true; first | (simp [c_4, c_5, c_8, c_9, c_10]; done) | (simp; omega) | (simp [c_4, c_5, c_8, c_9, c_10]; omega))) dX1_hasEdge_75 hlocks
  · skip
    have c_4 : v.1.2.2 ((3) * (t)) = f := (nI_eq (a := v.1.2.2 ((3) * (t))) (b := f) (by omega) (by omega)).mp c_4
    refine lv_iload hx hb dX1_hasEdge_40 (lv_at hl 1 rfl) ?_
    refine lv_iload_n hx hb dX1_hasEdge_42 rfl (lv_at hl 6 rfl) ?_
    refine lv_icmp_eq (tgt := 70) hx hb dX1_hasEdge_43 (by decide) (fun c_11 => ?_) (fun c_11 => ?_)
    · skip
      have c_11 : v.1.2.2 ((3) * (t) + 1) = o := (nI_eq (a := v.1.2.2 ((3) * (t) + 1)) (b := o) (by omega) (by omega)).mp c_11
      refine lv_iconst (v := nI (1)) hx hb dX1_hasEdge_70 (by decide) ?_
      refine lv_goto (tgt := 75) hx hb dX1_hasEdge_71 (by decide) ?_
      exact ro_zret hx hb hr (by decide) (rb_1 (by show ((decide (v.1.2.2 (3 * t) = f) && decide (v.1.2.2 (3 * t + 1) = o)) || ((decide (v.1.2.2 (3 * t + 1) = f) && decide (v.1.2.2 (3 * t + 2) = o)) || (decide (v.1.2.2 (3 * t + 2) = f) && decide (v.1.2.2 (3 * t) = o)))) = true; first | (simp [c_4, c_11]; done) | (simp; omega) | (simp [c_4, c_11]; omega))) dX1_hasEdge_75 hlocks
    · skip
      have c_11 : ¬ (v.1.2.2 ((3) * (t) + 1) = o) := fun hq9 => c_11 ((nI_eq (a := v.1.2.2 ((3) * (t) + 1)) (b := o) (by omega) (by omega)).mpr hq9)
      refine lv_iload hx hb dX1_hasEdge_46 (lv_at hl 1 rfl) ?_
      refine lv_iload_n hx hb dX1_hasEdge_48 rfl (lv_at hl 5 rfl) ?_
      refine lv_icmp_ne (tgt := 58) hx hb dX1_hasEdge_49 (by decide) (fun c_12 => ?_) (fun c_12 => ?_)
      · skip
        have c_12 : ¬ (v.1.2.2 ((3) * (t) + 1) = f) := fun hq9 => c_12 ((nI_eq (a := v.1.2.2 ((3) * (t) + 1)) (b := f) (by omega) (by omega)).mpr hq9)
        refine lv_iload hx hb dX1_hasEdge_58 (lv_at hl 0 rfl) ?_
        refine lv_iload_n hx hb dX1_hasEdge_60 rfl (lv_at hl 5 rfl) ?_
        refine lv_icmp_ne (tgt := 74) hx hb dX1_hasEdge_61 (by decide) (fun c_13 => ?_) (fun c_13 => ?_)
        · skip
          have c_13 : ¬ (v.1.2.2 ((3) * (t) + 2) = f) := fun hq9 => c_13 ((nI_eq (a := v.1.2.2 ((3) * (t) + 2)) (b := f) (by omega) (by omega)).mpr hq9)
          refine lv_iconst (v := nI (0)) hx hb dX1_hasEdge_74 (by decide) ?_
          exact ro_zret hx hb hr (by decide) (rb_0 (by show ((decide (v.1.2.2 (3 * t) = f) && decide (v.1.2.2 (3 * t + 1) = o)) || ((decide (v.1.2.2 (3 * t + 1) = f) && decide (v.1.2.2 (3 * t + 2) = o)) || (decide (v.1.2.2 (3 * t + 2) = f) && decide (v.1.2.2 (3 * t) = o)))) = false; first | (simp [c_4, c_11, c_12, c_13]; done) | (simp; omega) | (simp [c_4, c_11, c_12, c_13]; omega))) dX1_hasEdge_75 hlocks
        · skip
          have c_13 : v.1.2.2 ((3) * (t) + 2) = f := (nI_eq (a := v.1.2.2 ((3) * (t) + 2)) (b := f) (by omega) (by omega)).mp c_13
          refine lv_iload hx hb dX1_hasEdge_64 (lv_at hl 2 rfl) ?_
          refine lv_iload_n hx hb dX1_hasEdge_66 rfl (lv_at hl 6 rfl) ?_
          refine lv_icmp_ne (tgt := 74) hx hb dX1_hasEdge_67 (by decide) (fun c_14 => ?_) (fun c_14 => ?_)
          · skip
            have c_14 : ¬ (v.1.2.2 ((3) * (t)) = o) := fun hq9 => c_14 ((nI_eq (a := v.1.2.2 ((3) * (t))) (b := o) (by omega) (by omega)).mpr hq9)
            refine lv_iconst (v := nI (0)) hx hb dX1_hasEdge_74 (by decide) ?_
            exact ro_zret hx hb hr (by decide) (rb_0 (by show ((decide (v.1.2.2 (3 * t) = f) && decide (v.1.2.2 (3 * t + 1) = o)) || ((decide (v.1.2.2 (3 * t + 1) = f) && decide (v.1.2.2 (3 * t + 2) = o)) || (decide (v.1.2.2 (3 * t + 2) = f) && decide (v.1.2.2 (3 * t) = o)))) = false; first | (simp [c_4, c_11, c_12, c_13, c_14]; done) | (simp; omega) | (simp [c_4, c_11, c_12, c_13, c_14]; omega))) dX1_hasEdge_75 hlocks
          · skip
            have c_14 : v.1.2.2 ((3) * (t)) = o := (nI_eq (a := v.1.2.2 ((3) * (t))) (b := o) (by omega) (by omega)).mp c_14
            refine lv_iconst (v := nI (1)) hx hb dX1_hasEdge_70 (by decide) ?_
            refine lv_goto (tgt := 75) hx hb dX1_hasEdge_71 (by decide) ?_
            exact ro_zret hx hb hr (by decide) (rb_1 (by show ((decide (v.1.2.2 (3 * t) = f) && decide (v.1.2.2 (3 * t + 1) = o)) || ((decide (v.1.2.2 (3 * t + 1) = f) && decide (v.1.2.2 (3 * t + 2) = o)) || (decide (v.1.2.2 (3 * t + 2) = f) && decide (v.1.2.2 (3 * t) = o)))) = true; first | (simp [c_4, c_11, c_12, c_13, c_14]; done) | (simp; omega) | (simp [c_4, c_11, c_12, c_13, c_14]; omega))) dX1_hasEdge_75 hlocks
      · skip
        have c_12 : v.1.2.2 ((3) * (t) + 1) = f := (nI_eq (a := v.1.2.2 ((3) * (t) + 1)) (b := f) (by omega) (by omega)).mp c_12
        refine lv_iload hx hb dX1_hasEdge_52 (lv_at hl 0 rfl) ?_
        refine lv_iload_n hx hb dX1_hasEdge_54 rfl (lv_at hl 6 rfl) ?_
        refine lv_icmp_eq (tgt := 70) hx hb dX1_hasEdge_55 (by decide) (fun c_15 => ?_) (fun c_15 => ?_)
        · skip
          have c_15 : v.1.2.2 ((3) * (t) + 2) = o := (nI_eq (a := v.1.2.2 ((3) * (t) + 2)) (b := o) (by omega) (by omega)).mp c_15
          refine lv_iconst (v := nI (1)) hx hb dX1_hasEdge_70 (by decide) ?_
          refine lv_goto (tgt := 75) hx hb dX1_hasEdge_71 (by decide) ?_
          exact ro_zret hx hb hr (by decide) (rb_1 (by show ((decide (v.1.2.2 (3 * t) = f) && decide (v.1.2.2 (3 * t + 1) = o)) || ((decide (v.1.2.2 (3 * t + 1) = f) && decide (v.1.2.2 (3 * t + 2) = o)) || (decide (v.1.2.2 (3 * t + 2) = f) && decide (v.1.2.2 (3 * t) = o)))) = true; first | (simp [c_4, c_11, c_12, c_15]; done) | (simp; omega) | (simp [c_4, c_11, c_12, c_15]; omega))) dX1_hasEdge_75 hlocks
        · skip
          have c_15 : ¬ (v.1.2.2 ((3) * (t) + 2) = o) := fun hq9 => c_15 ((nI_eq (a := v.1.2.2 ((3) * (t) + 2)) (b := o) (by omega) (by omega)).mpr hq9)
          refine lv_iload hx hb dX1_hasEdge_58 (lv_at hl 0 rfl) ?_
          refine lv_iload_n hx hb dX1_hasEdge_60 rfl (lv_at hl 5 rfl) ?_
          refine lv_icmp_ne (tgt := 74) hx hb dX1_hasEdge_61 (by decide) (fun c_16 => ?_) (fun c_16 => ?_)
          · skip
            have c_16 : ¬ (v.1.2.2 ((3) * (t) + 2) = f) := fun hq9 => c_16 ((nI_eq (a := v.1.2.2 ((3) * (t) + 2)) (b := f) (by omega) (by omega)).mpr hq9)
            refine lv_iconst (v := nI (0)) hx hb dX1_hasEdge_74 (by decide) ?_
            exact ro_zret hx hb hr (by decide) (rb_0 (by show ((decide (v.1.2.2 (3 * t) = f) && decide (v.1.2.2 (3 * t + 1) = o)) || ((decide (v.1.2.2 (3 * t + 1) = f) && decide (v.1.2.2 (3 * t + 2) = o)) || (decide (v.1.2.2 (3 * t + 2) = f) && decide (v.1.2.2 (3 * t) = o)))) = false; first | (simp [c_4, c_11, c_12, c_15, c_16]; done) | (simp; omega) | (simp [c_4, c_11, c_12, c_15, c_16]; omega))) dX1_hasEdge_75 hlocks
          · skip
            have c_16 : v.1.2.2 ((3) * (t) + 2) = f := (nI_eq (a := v.1.2.2 ((3) * (t) + 2)) (b := f) (by omega) (by omega)).mp c_16
            refine lv_iload hx hb dX1_hasEdge_64 (lv_at hl 2 rfl) ?_
            refine lv_iload_n hx hb dX1_hasEdge_66 rfl (lv_at hl 6 rfl) ?_
            refine lv_icmp_ne (tgt := 74) hx hb dX1_hasEdge_67 (by decide) (fun c_17 => ?_) (fun c_17 => ?_)
            · skip
              have c_17 : ¬ (v.1.2.2 ((3) * (t)) = o) := fun hq9 => c_17 ((nI_eq (a := v.1.2.2 ((3) * (t))) (b := o) (by omega) (by omega)).mpr hq9)
              refine lv_iconst (v := nI (0)) hx hb dX1_hasEdge_74 (by decide) ?_
              exact ro_zret hx hb hr (by decide) (rb_0 (by show ((decide (v.1.2.2 (3 * t) = f) && decide (v.1.2.2 (3 * t + 1) = o)) || ((decide (v.1.2.2 (3 * t + 1) = f) && decide (v.1.2.2 (3 * t + 2) = o)) || (decide (v.1.2.2 (3 * t + 2) = f) && decide (v.1.2.2 (3 * t) = o)))) = false; first | (simp [c_4, c_11, c_12, c_15, c_16, c_17]; done) | (simp; omega) | (simp [c_4, c_11, c_12, c_15, c_16, c_17]; omega))) dX1_hasEdge_75 hlocks
            · skip
              have c_17 : v.1.2.2 ((3) * (t)) = o := (nI_eq (a := v.1.2.2 ((3) * (t))) (b := o) (by omega) (by omega)).mp c_17
              refine lv_iconst (v := nI (1)) hx hb dX1_hasEdge_70 (by decide) ?_
              refine lv_goto (tgt := 75) hx hb dX1_hasEdge_71 (by decide) ?_
              exact ro_zret hx hb hr (by decide) (rb_1 (by show ((decide (v.1.2.2 (3 * t) = f) && decide (v.1.2.2 (3 * t + 1) = o)) || ((decide (v.1.2.2 (3 * t + 1) = f) && decide (v.1.2.2 (3 * t + 2) = o)) || (decide (v.1.2.2 (3 * t + 2) = f) && decide (v.1.2.2 (3 * t) = o)))) = true; first | (simp [c_4, c_11, c_12, c_15, c_16, c_17]; done) | (simp; omega) | (simp [c_4, c_11, c_12, c_15, c_16, c_17]; omega))) dX1_hasEdge_75 hlocks
set_option maxHeartbeats 4000000 in
set_option maxRecDepth 100000 in
theorem c_X1_neighbour (l : Launch) (dC : Nat → ClassId) (dI : Nat → Nat → Nat) (cI cL cZ : ClassId) (a : Nat → Nat) (v : SV) (t j : Nat) (hv : okS v) (ht : t < 200) (hj : j < 4) : Met l yX1_neighbour wsX1_neighbour ({ frames := 1, cells := 0, slots := 0, locals := 26 }) (va_Pc [.ref (a 4), .int (nI (t)), .int (nI (j))] (ro_B (dC, dI) vwCl (wS cI cL a v) (tyS cI cL cZ))) (k2_QcV (.int (oI (nbr v.1 (sTh v) (sTn v) t j)))) 0 0 (fun _ => False) := by
  refine ro_Met (cc := cX1_neighbour) (maxL := 6) (ret := (some .int)) (by decide) rfl (Nat.le_of_ble_eq_true rfl) ?_
  intro pr en s m below meth co ls hx hb hml hr hlocks hown hts hP hK hl
  have hl : lv_has ls 6 [(0, .ref (a 4)), (1, .int (nI (t))), (2, .int (nI (j)))] := hl
  have hown : s.vm.findClass RX1 = some m.cls := hown
  have hvp : sPn v ≤ 60 ∧ sTn v ≤ 60 ∧ sTm v ≤ 200 := ⟨hv.2.1, hv.2.2.2.1, hv.2.2.2.2.1⟩
  have hg1 := gc_lt hv.1 (t := t) (k := j)
  have hg2 := gc_lt hv.1 (t := t) (k := j + 1)
  refine lv_aload_n hx hb dX1_neighbour_0 rfl (lv_at hl 0 rfl) ?_
  refine lv_iload_n hx hb dX1_neighbour_1 rfl (lv_at hl 1 rfl) ?_
  refine lv_iload_n hx hb dX1_neighbour_2 rfl (lv_at hl 2 rfl) ?_
  refine ro_V (As := [.int (nI (t)), .int (nI (j))]) (rest := []) (q0 := 4) (ci := 1) hx hb hml hown hts (c_X1_cornerOf l dC dI cI cL cZ a v t j (by omega) (by omega)) (cwV 2 hts gX1_neighbour_X1_cornerOf rfl rfl rfl (by decide +kernel) ⟨Nat.le_of_ble_eq_true rfl, Nat.le_of_ble_eq_true rfl⟩) hK hP rfl rfl rfl hl.1 rfl (Nat.le_of_ble_eq_true rfl) dX1_neighbour_3 ⟨Nat.zero_le _, Nat.zero_le _⟩ ?_
  refine lv_istore_n (lv' := [(3, .int (nI (gc v.1 t j))), (0, .ref (a 4)), (1, .int (nI (t))), (2, .int (nI (j)))]) hx hb dX1_neighbour_6 rfl hl (by decide) rfl (fun ls hl => ?_)
  refine lv_aload_n hx hb dX1_neighbour_7 rfl (lv_at hl 1 rfl) ?_
  refine lv_iload_n hx hb dX1_neighbour_8 rfl (lv_at hl 2 rfl) ?_
  refine lv_iload_n hx hb dX1_neighbour_9 rfl (lv_at hl 3 rfl) ?_
  refine lv_iconst (v := nI (1)) hx hb dX1_neighbour_10 (by decide) ?_
  refine lv_iadd hx hb dX1_neighbour_11 ?_
  refine rt_i (y := (nI (j + 1))) (nn_add (j) (1)) ?_
  refine ro_V (As := [.int (nI (t)), .int (nI (j + 1))]) (rest := []) (q0 := 4) (ci := 1) hx hb hml hown hts (c_X1_cornerOf l dC dI cI cL cZ a v t (j + 1) (by omega) (by omega)) (cwV 2 hts gX1_neighbour_X1_cornerOf rfl rfl rfl (by decide +kernel) ⟨Nat.le_of_ble_eq_true rfl, Nat.le_of_ble_eq_true rfl⟩) hK hP rfl rfl rfl hl.1 rfl (Nat.le_of_ble_eq_true rfl) dX1_neighbour_12 ⟨Nat.zero_le _, Nat.zero_le _⟩ ?_
  refine lv_istore (lv' := [(4, .int (nI (gc v.1 t (j + 1)))), (3, .int (nI (gc v.1 t j))), (0, .ref (a 4)), (1, .int (nI (t))), (2, .int (nI (j)))]) hx hb dX1_neighbour_15 hl (by decide) rfl (fun ls hl => ?_)
  refine lv_iconst (v := nI (0)) hx hb dX1_neighbour_17 (by decide) ?_
  refine lv_istore (lv' := [(5, .int (nI (0))), (4, .int (nI (gc v.1 t (j + 1)))), (3, .int (nI (gc v.1 t j))), (0, .ref (a 4)), (1, .int (nI (t))), (2, .int (nI (j)))]) hx hb dX1_neighbour_18 hl (by decide) rfl (fun ls hl => ?_)
  refine lp (σ := Nat) (LV := fun n => [(0, .ref (a 4)), (1, .int (nI (t))), (2, .int (nI (j))), (3, .int (nI (gc v.1 t j))), (4, .int (nI (gc v.1 t (j + 1)))), (5, .int (nI (n)))]) (I := fun k n => n + k = sTn v ∧ nbi v.1 (sTh v) (sTn v) t j = fnd (fun i => hed v.1 (sTh v i) (gc v.1 t (j + 1)) (gc v.1 t j)) k n) (fun k n ls hI_k hl ih_k => ?_) (sTn v) (0) ls ⟨by omega, rfl⟩ (lv_sub hl [3, 4, 5, 2, 1, 0] rfl)
  obtain ⟨hk, hi⟩ := hI_k
  refine lv_iload hx hb dX1_neighbour_20 (lv_at hl 5 rfl) ?_
  refine lv_aload_n hx hb dX1_neighbour_22 rfl (lv_at hl 0 rfl) ?_
  refine va_get (D := (dC, dI)) (ci := 1) (v := .int (nI (sTn v))) (C := RX1) (T := TX1) (N := 4) hx hb hts (by decide +kernel) hown hK hP 4 rfl rfl 2 (by decide) (hts (.fieldLink RX1 18 "TriangleSheet$Triangles" "thereCount" "I") (by decide +kernel)) (fun _ h9 => h9) rfl dX1_neighbour_23 ?_
  refine lv_icmp_ge (tgt := 60) hx hb dX1_neighbour_26 (by decide) (fun c_1 => ?_) (fun c_1 => ?_)
  · skip
    have c_1 : sTn v ≤ n := (nI_leI (a := sTn v) (b := n) (by omega) (by omega)).mp c_1
    refine lv_iconst (v := iI (-1)) hx hb dX1_neighbour_60 (by decide) ?_
    exact ro_iret hx hb hr (rO (by rw [nbr, hi, show k = 0 by omega]; rfl)) dX1_neighbour_61 hlocks
  · skip
    have c_1 : ¬ (sTn v ≤ n) := fun hq9 => c_1 ((nI_leI (a := sTn v) (b := n) (by omega) (by omega)).mpr hq9)
    refine lv_aload_n hx hb dX1_neighbour_29 rfl (lv_at hl 0 rfl) ?_
    refine lv_aload_n hx hb dX1_neighbour_30 rfl (lv_at hl 0 rfl) ?_
    refine va_get (D := (dC, dI)) (ci := 1) (v := .ref (a 6)) (C := RX1) (T := TX1) (N := 4) hx hb hts (by decide +kernel) hown hK hP 4 rfl rfl 1 (by decide) (hts (.fieldLink RX1 15 "TriangleSheet$Triangles" "there" "[I") (by decide +kernel)) (fun _ h9 => h9) rfl dX1_neighbour_31 ?_
    refine lv_iload hx hb dX1_neighbour_34 (lv_at hl 5 rfl) ?_
    refine ia_ld (k := n) hx hb hK hP 6 0 rfl rfl (by omega) (by decide) dX1_neighbour_36 ?_
    refine W.eq (g2 := F0 m 37 ls [.int (nI (sTh v (n))), .ref (a 4)]) rfl ?_
    have bd_2 := hv.2.2.1 (n)
    refine lv_iload hx hb dX1_neighbour_37 (lv_at hl 4 rfl) ?_
    refine lv_iload_n hx hb dX1_neighbour_39 rfl (lv_at hl 3 rfl) ?_
    refine ro_V (As := [.int (nI (sTh v (n))), .int (nI (gc v.1 t (j + 1))), .int (nI (gc v.1 t j))]) (rest := []) (q0 := 4) (ci := 1) hx hb hml hown hts (c_X1_hasEdge l dC dI cI cL cZ a v (sTh v (n)) (gc v.1 t (j + 1)) (gc v.1 t j) hv (by omega) (by omega) (by omega)) (cwV 3 hts gX1_neighbour_X1_hasEdge rfl rfl rfl (by decide +kernel) ⟨Nat.le_of_ble_eq_true rfl, Nat.le_of_ble_eq_true rfl⟩) hK hP rfl rfl rfl hl.1 rfl (Nat.le_of_ble_eq_true rfl) dX1_neighbour_40 ⟨Nat.zero_le _, Nat.zero_le _⟩ ?_
    refine lv_if_eq (tgt := 54) hx hb dX1_neighbour_43 (by decide) (fun c_3 => ?_) (fun c_3 => ?_)
    · skip
      have c_3 : (hed v.1 (sTh v (n)) (gc v.1 t (j + 1)) (gc v.1 t j)) = false := bI_f c_3
      refine lv_iinc (v := nI (n + 1)) (lv' := [(5, .int (nI (n + 1))), (0, .ref (a 4)), (1, .int (nI (t))), (2, .int (nI (j))), (3, .int (nI (gc v.1 t j))), (4, .int (nI (gc v.1 t (j + 1))))]) hx hb dX1_neighbour_54 hl (k := 5) rfl (nI_1 (n)) (by decide) rfl (fun ls hl => ?_)
      refine lv_goto (tgt := 20) hx hb dX1_neighbour_57 (by decide) ?_
      exact ih_k (k - 1) (n + 1) ls (by omega) ⟨by omega, hi.trans (fnd_miss (by omega) (by assumption))⟩ (lv_sub hl [1, 2, 3, 4, 5, 0] rfl)
    · skip
      have c_3 : (hed v.1 (sTh v (n)) (gc v.1 t (j + 1)) (gc v.1 t j)) = true := bI_t c_3
      refine lv_aload_n hx hb dX1_neighbour_46 rfl (lv_at hl 0 rfl) ?_
      refine va_get (D := (dC, dI)) (ci := 1) (v := .ref (a 6)) (C := RX1) (T := TX1) (N := 4) hx hb hts (by decide +kernel) hown hK hP 4 rfl rfl 1 (by decide) (hts (.fieldLink RX1 15 "TriangleSheet$Triangles" "there" "[I") (by decide +kernel)) (fun _ h9 => h9) rfl dX1_neighbour_47 ?_
      refine lv_iload hx hb dX1_neighbour_50 (lv_at hl 5 rfl) ?_
      refine ia_ld (k := n) hx hb hK hP 6 0 rfl rfl (by omega) (by decide) dX1_neighbour_52 ?_
      refine W.eq (g2 := F0 m 53 ls [.int (nI (sTh v (n)))]) rfl ?_
      have bd_4 := hv.2.2.1 (n)
      exact ro_iret hx hb hr (rO (by rw [nbr, hi, fnd_hit (by omega) (by assumption)]; rfl)) dX1_neighbour_53 hlocks
end
section
/-! what the class's own methods compute of a state -/
def has (g : GG) (t : Nat) (x y : Int) : Bool := alf (fun k => decide (0 ≤ tbe g t k x y)) 3 0
def wit (g : GG) (t : Nat) (x y : Int) : Bool := alf (fun k => decide (0 < tbe g t k x y)) 3 0
def own (g : GG) (t k : Nat) : Bool := decide (g.2.1 (gc g t (k + 1)) < g.2.1 (gc g t k)) || (decide (g.2.1 (gc g t (k + 1)) = g.2.1 (gc g t k)) && decide (g.1 (gc g t (k + 1)) < g.1 (gc g t k)))
def lie (g : GG) (t : Nat) (x y : Int) : Bool := alf (fun k => decide (0 < tbe g t k x y) || (decide (tbe g t k x y = 0) && own g t k)) 3 0
def cov (g : GG) (t i j : Nat) : Bool := rgt g t && lie g t ((16 * i + 8 : Nat) : Int) ((16 * j + 8 : Nat) : Int)
def lef (g : GG) (t : Nat) : Nat := min (g.1 (gc g t 0)) (min (g.1 (gc g t 1)) (g.1 (gc g t 2)))
def rig (g : GG) (t : Nat) : Nat := max (g.1 (gc g t 0)) (max (g.1 (gc g t 1)) (g.1 (gc g t 2)))
def low (g : GG) (t : Nat) : Nat := min (g.2.1 (gc g t 0)) (min (g.2.1 (gc g t 1)) (g.2.1 (gc g t 2)))
def hig (g : GG) (t : Nat) : Nat := max (g.2.1 (gc g t 0)) (max (g.2.1 (gc g t 1)) (g.2.1 (gc g t 2)))
def far (g : GG) (t u : Nat) : Bool := decide (rig g t < lef g u) || (decide (rig g u < lef g t) || (decide (hig g t < low g u) || decide (hig g u < low g t)))
def sam (g : GG) (t u : Nat) : Bool := alf (fun k => hcr g u (gc g t k)) 3 0
def rea (g : GG) (t u : Nat) : Bool := (fnd (fun k => !hcr g u (gc g t k) && has g u (gx g (gc g t k)) (gy g (gc g t k))) 3 0).isSome
def cr1 (g : GG) (t u k : Nat) : Bool := (fnd (fun m => crs g (gc g t k) (gc g t (k + 1)) (gc g u m) (gc g u (m + 1))) 3 0).isSome
def cre (g : GG) (t u : Nat) : Bool := (fnd (fun k => cr1 g t u k) 3 0).isSome
def tid (g : GG) (t u : Nat) : Bool := far g t u || (!sam g t u && (!rea g t u && (!rea g u t && !cre g t u)))
def fub (g : GG) (th : Nat → Nat) (i : Nat) : Option Nat := (fnd (fun j => !tid g (th i) (th j)) i 0).map th
theorem lef_lt {g : GG} (h : okG g) {t : Nat} : lef g t < 512 := by have := h.1 (gc g t 0); unfold lef; omega
theorem rig_lt {g : GG} (h : okG g) {t : Nat} : rig g t < 512 := by have := h.1 (gc g t 0); have := h.1 (gc g t 1); have := h.1 (gc g t 2); unfold rig; omega
theorem low_lt {g : GG} (h : okG g) {t : Nat} : low g t < 512 := by have := h.2.1 (gc g t 0); unfold low; omega
theorem hig_lt {g : GG} (h : okG g) {t : Nat} : hig g t < 512 := by have := h.2.1 (gc g t 0); have := h.2.1 (gc g t 1); have := h.2.1 (gc g t 2); unfold hig; omega
theorem fub_lt {v : SV} (hv : okS v) {i k : Nat} (h : fub v.1 (sTh v) i = some k) : k < 200 := by
  unfold fub at h
  cases hq : fnd (fun j => !tid v.1 (sTh v i) (sTh v j)) i 0 with
  | none => rw [hq] at h; cases h
  | some j => rw [hq] at h; cases h; exact hv.2.2.1 j
end
section
set_option maxHeartbeats 4000000 in
set_option maxRecDepth 100000 in
theorem c_X2_isPlace (l : Launch) (dC : Nat → ClassId) (dI : Nat → Nat → Nat)  (x y : Int32)  : Met l yX2_isPlace wsX2_isPlace ({ frames := 0, cells := 0, slots := 0, locals := 0 }) (va_Pc [.int (x), .int (y)] (ro_B (dC, dI) vwCl [] [])) (k2_QcV (.int (bI (inB x 512 && inB y 512)))) 0 0 (fun _ => False) := by
  refine ro_Met (cc := cX2_isPlace) (maxL := 2) (ret := (some .boolean)) (by decide) rfl (Nat.le_of_ble_eq_true rfl) ?_
  intro pr en s m below meth co ls hx hb hml hr hlocks hown hts hP hK hl
  have hl : lv_has ls 2 [(0, .int (x)), (1, .int (y))] := hl
  have hown : s.vm.findClass RX2 = some m.cls := hown
  refine lv_iload_n hx hb dX2_isPlace_0 rfl (lv_at hl 0 rfl) ?_
  refine lv_if_lt (tgt := 26) hx hb dX2_isPlace_1 (by decide) (fun c_1 => ?_) (fun c_1 => ?_)
  · skip
    refine lv_iconst (v := nI (0)) hx hb dX2_isPlace_26 (by decide) ?_
    exact ro_zret hx hb hr (by decide) (rb_0 (by first | (rw [inB_neg (p := x) (by assumption)]; simp; done) | (rw [inB_big (p := x) (by omega) (by assumption)]; simp; done) | (rw [inB_neg (p := y) (by assumption)]; simp; done) | (rw [inB_big (p := y) (by omega) (by assumption)]; simp; done))) dX2_isPlace_27 hlocks
  · skip
    refine lv_iload_n hx hb dX2_isPlace_4 rfl (lv_at hl 0 rfl) ?_
    refine lv_sipush (v := nI (512)) hx hb dX2_isPlace_5 (by decide) ?_
    refine lv_icmp_ge (tgt := 26) hx hb dX2_isPlace_8 (by decide) (fun c_2 => ?_) (fun c_2 => ?_)
    · skip
      refine lv_iconst (v := nI (0)) hx hb dX2_isPlace_26 (by decide) ?_
      exact ro_zret hx hb hr (by decide) (rb_0 (by first | (rw [inB_neg (p := x) (by assumption)]; simp; done) | (rw [inB_big (p := x) (by omega) (by assumption)]; simp; done) | (rw [inB_neg (p := y) (by assumption)]; simp; done) | (rw [inB_big (p := y) (by omega) (by assumption)]; simp; done))) dX2_isPlace_27 hlocks
    · skip
      refine lv_iload_n hx hb dX2_isPlace_11 rfl (lv_at hl 1 rfl) ?_
      refine lv_if_lt (tgt := 26) hx hb dX2_isPlace_12 (by decide) (fun c_3 => ?_) (fun c_3 => ?_)
      · skip
        refine lv_iconst (v := nI (0)) hx hb dX2_isPlace_26 (by decide) ?_
        exact ro_zret hx hb hr (by decide) (rb_0 (by first | (rw [inB_neg (p := x) (by assumption)]; simp; done) | (rw [inB_big (p := x) (by omega) (by assumption)]; simp; done) | (rw [inB_neg (p := y) (by assumption)]; simp; done) | (rw [inB_big (p := y) (by omega) (by assumption)]; simp; done))) dX2_isPlace_27 hlocks
      · skip
        refine lv_iload_n hx hb dX2_isPlace_15 rfl (lv_at hl 1 rfl) ?_
        refine lv_sipush (v := nI (512)) hx hb dX2_isPlace_16 (by decide) ?_
        refine lv_icmp_ge (tgt := 26) hx hb dX2_isPlace_19 (by decide) (fun c_4 => ?_) (fun c_4 => ?_)
        · skip
          refine lv_iconst (v := nI (0)) hx hb dX2_isPlace_26 (by decide) ?_
          exact ro_zret hx hb hr (by decide) (rb_0 (by first | (rw [inB_neg (p := x) (by assumption)]; simp; done) | (rw [inB_big (p := x) (by omega) (by assumption)]; simp; done) | (rw [inB_neg (p := y) (by assumption)]; simp; done) | (rw [inB_big (p := y) (by omega) (by assumption)]; simp; done))) dX2_isPlace_27 hlocks
        · skip
          refine lv_iconst (v := nI (1)) hx hb dX2_isPlace_22 (by decide) ?_
          refine lv_goto (tgt := 27) hx hb dX2_isPlace_23 (by decide) ?_
          exact ro_zret hx hb hr (by decide) (rb_1 (by rw [inB_in (by omega) c_1 c_2, inB_in (by omega) c_3 c_4]; rfl)) dX2_isPlace_27 hlocks
set_option maxHeartbeats 4000000 in
set_option maxRecDepth 100000 in
theorem c_X2_isPixel (l : Launch) (dC : Nat → ClassId) (dI : Nat → Nat → Nat)  (x y : Int32)  : Met l yX2_isPixel wsX2_isPixel ({ frames := 0, cells := 0, slots := 0, locals := 0 }) (va_Pc [.int (x), .int (y)] (ro_B (dC, dI) vwCl [] [])) (k2_QcV (.int (bI (inB x 32 && inB y 32)))) 0 0 (fun _ => False) := by
  refine ro_Met (cc := cX2_isPixel) (maxL := 2) (ret := (some .boolean)) (by decide) rfl (Nat.le_of_ble_eq_true rfl) ?_
  intro pr en s m below meth co ls hx hb hml hr hlocks hown hts hP hK hl
  have hl : lv_has ls 2 [(0, .int (x)), (1, .int (y))] := hl
  have hown : s.vm.findClass RX2 = some m.cls := hown
  refine lv_iload_n hx hb dX2_isPixel_0 rfl (lv_at hl 0 rfl) ?_
  refine lv_if_lt (tgt := 24) hx hb dX2_isPixel_1 (by decide) (fun c_1 => ?_) (fun c_1 => ?_)
  · skip
    refine lv_iconst (v := nI (0)) hx hb dX2_isPixel_24 (by decide) ?_
    exact ro_zret hx hb hr (by decide) (rb_0 (by first | (rw [inB_neg (p := x) (by assumption)]; simp; done) | (rw [inB_big (p := x) (by omega) (by assumption)]; simp; done) | (rw [inB_neg (p := y) (by assumption)]; simp; done) | (rw [inB_big (p := y) (by omega) (by assumption)]; simp; done))) dX2_isPixel_25 hlocks
  · skip
    refine lv_iload_n hx hb dX2_isPixel_4 rfl (lv_at hl 0 rfl) ?_
    refine lv_bipush (v := nI (32)) hx hb dX2_isPixel_5 (by decide) ?_
    refine lv_icmp_ge (tgt := 24) hx hb dX2_isPixel_7 (by decide) (fun c_2 => ?_) (fun c_2 => ?_)
    · skip
      refine lv_iconst (v := nI (0)) hx hb dX2_isPixel_24 (by decide) ?_
      exact ro_zret hx hb hr (by decide) (rb_0 (by first | (rw [inB_neg (p := x) (by assumption)]; simp; done) | (rw [inB_big (p := x) (by omega) (by assumption)]; simp; done) | (rw [inB_neg (p := y) (by assumption)]; simp; done) | (rw [inB_big (p := y) (by omega) (by assumption)]; simp; done))) dX2_isPixel_25 hlocks
    · skip
      refine lv_iload_n hx hb dX2_isPixel_10 rfl (lv_at hl 1 rfl) ?_
      refine lv_if_lt (tgt := 24) hx hb dX2_isPixel_11 (by decide) (fun c_3 => ?_) (fun c_3 => ?_)
      · skip
        refine lv_iconst (v := nI (0)) hx hb dX2_isPixel_24 (by decide) ?_
        exact ro_zret hx hb hr (by decide) (rb_0 (by first | (rw [inB_neg (p := x) (by assumption)]; simp; done) | (rw [inB_big (p := x) (by omega) (by assumption)]; simp; done) | (rw [inB_neg (p := y) (by assumption)]; simp; done) | (rw [inB_big (p := y) (by omega) (by assumption)]; simp; done))) dX2_isPixel_25 hlocks
      · skip
        refine lv_iload_n hx hb dX2_isPixel_14 rfl (lv_at hl 1 rfl) ?_
        refine lv_bipush (v := nI (32)) hx hb dX2_isPixel_15 (by decide) ?_
        refine lv_icmp_ge (tgt := 24) hx hb dX2_isPixel_17 (by decide) (fun c_4 => ?_) (fun c_4 => ?_)
        · skip
          refine lv_iconst (v := nI (0)) hx hb dX2_isPixel_24 (by decide) ?_
          exact ro_zret hx hb hr (by decide) (rb_0 (by first | (rw [inB_neg (p := x) (by assumption)]; simp; done) | (rw [inB_big (p := x) (by omega) (by assumption)]; simp; done) | (rw [inB_neg (p := y) (by assumption)]; simp; done) | (rw [inB_big (p := y) (by omega) (by assumption)]; simp; done))) dX2_isPixel_25 hlocks
        · skip
          refine lv_iconst (v := nI (1)) hx hb dX2_isPixel_20 (by decide) ?_
          refine lv_goto (tgt := 25) hx hb dX2_isPixel_21 (by decide) ?_
          exact ro_zret hx hb hr (by decide) (rb_1 (by rw [inB_in (by omega) c_1 c_2, inB_in (by omega) c_3 c_4]; rfl)) dX2_isPixel_25 hlocks
set_option maxHeartbeats 4000000 in
set_option maxRecDepth 100000 in
theorem c_X2_sampleOf (l : Launch) (dC : Nat → ClassId) (dI : Nat → Nat → Nat)  (i : Nat)  : Met l yX2_sampleOf wsX2_sampleOf ({ frames := 0, cells := 0, slots := 0, locals := 0 }) (va_Pc [.int (nI (i))] (ro_B (dC, dI) vwCl [] [])) (k2_QcV (.int (nI (16 * i + 8)))) 0 0 (fun _ => False) := by
  refine ro_Met (cc := cX2_sampleOf) (maxL := 1) (ret := (some .int)) (by decide) rfl (Nat.le_of_ble_eq_true rfl) ?_
  intro pr en s m below meth co ls hx hb hml hr hlocks hown hts hP hK hl
  have hl : lv_has ls 1 [(0, .int (nI (i)))] := hl
  have hown : s.vm.findClass RX2 = some m.cls := hown
  refine lv_bipush (v := nI (16)) hx hb dX2_sampleOf_0 (by decide) ?_
  refine lv_iload_n hx hb dX2_sampleOf_2 rfl (lv_at hl 0 rfl) ?_
  refine lv_imul hx hb dX2_sampleOf_3 ?_
  refine rt_i (y := (nI ((16) * (i)))) (nn_mul (16) (i)) ?_
  refine lv_bipush (v := nI (8)) hx hb dX2_sampleOf_4 (by decide) ?_
  refine lv_iadd hx hb dX2_sampleOf_6 ?_
  refine rt_i (y := (nI ((16) * (i) + 8))) (nn_add ((16) * (i)) (8)) ?_
  exact ro_iret hx hb hr rfl dX2_sampleOf_7 hlocks
set_option maxHeartbeats 4000000 in
set_option maxRecDepth 100000 in
theorem c_X2_isEdge (l : Launch) (dC : Nat → ClassId) (dI : Nat → Nat → Nat) (cI cL cZ : ClassId) (a : Nat → Nat) (v : SV) (t j : Int32) (hv : okS v) : Met l yX2_isEdge wsX2_isEdge ({ frames := 1, cells := 0, slots := 0, locals := 22 }) (va_Pc [.ref (a 0), .int (t), .int (j)] (ro_B (dC, dI) vwCl (wS cI cL a v) (tyS cI cL cZ))) (k2_QcV (.int (bI (inB j 3 && thB (sTh v) (sTn v) t)))) 0 0 (fun _ => False) := by
  refine ro_Met (cc := cX2_isEdge) (maxL := 3) (ret := (some .boolean)) (by decide) rfl (Nat.le_of_ble_eq_true rfl) ?_
  intro pr en s m below meth co ls hx hb hml hr hlocks hown hts hP hK hl
  have hl : lv_has ls 3 [(0, .ref (a 0)), (1, .int (t)), (2, .int (j))] := hl
  have hown : s.vm.findClass RX2 = some m.cls := hown
  have hvp : sPn v ≤ 60 ∧ sTn v ≤ 60 ∧ sTm v ≤ 200 := ⟨hv.2.1, hv.2.2.2.1, hv.2.2.2.2.1⟩
  refine lv_iload_n hx hb dX2_isEdge_0 rfl (lv_at hl 2 rfl) ?_
  refine lv_if_lt (tgt := 24) hx hb dX2_isEdge_1 (by decide) (fun c_1 => ?_) (fun c_1 => ?_)
  · skip
    refine lv_iconst (v := nI (0)) hx hb dX2_isEdge_24 (by decide) ?_
    exact ro_zret hx hb hr (by decide) (rb_0 (by first | (rw [inB_neg (by assumption)]; rfl) | (rw [inB_big (by omega) (by assumption)]; rfl) | (simp [c_3]; done))) dX2_isEdge_25 hlocks
  · skip
    refine lv_iload_n hx hb dX2_isEdge_4 rfl (lv_at hl 2 rfl) ?_
    refine lv_iconst (v := nI (3)) hx hb dX2_isEdge_5 (by decide) ?_
    refine lv_icmp_ge (tgt := 24) hx hb dX2_isEdge_6 (by decide) (fun c_2 => ?_) (fun c_2 => ?_)
    · skip
      refine lv_iconst (v := nI (0)) hx hb dX2_isEdge_24 (by decide) ?_
      exact ro_zret hx hb hr (by decide) (rb_0 (by first | (rw [inB_neg (by assumption)]; rfl) | (rw [inB_big (by omega) (by assumption)]; rfl) | (simp [c_3]; done))) dX2_isEdge_25 hlocks
    · skip
      refine lv_aload_n hx hb dX2_isEdge_9 rfl (lv_at hl 0 rfl) ?_
      refine va_get (D := (dC, dI)) (ci := 2) (v := .ref (a 4)) (C := RX2) (T := TX2) (N := 6) hx hb hts (by decide +kernel) hown hK hP 0 rfl rfl 1 (by decide) (hts (.fieldLink RX2 19 "TriangleSheet" "triangles" "LTriangleSheet$Triangles;") (by decide +kernel)) (fun _ h9 => h9) rfl dX2_isEdge_10 ?_
      refine lv_iload_n hx hb dX2_isEdge_13 rfl (lv_at hl 1 rfl) ?_
      refine ro_V (As := [.int (t)]) (rest := []) (q0 := 4) (ci := 1) hx hb hml hown hts (c_X1_isThere l dC dI cI cL cZ a v t hv) (cwV 1 hts gX2_isEdge_X1_isThere rfl rfl rfl (by decide +kernel) ⟨Nat.le_of_ble_eq_true rfl, Nat.le_of_ble_eq_true rfl⟩) hK hP rfl rfl rfl hl.1 rfl (Nat.le_of_ble_eq_true rfl) dX2_isEdge_14 ⟨Nat.zero_le _, Nat.zero_le _⟩ ?_
      refine lv_if_eq (tgt := 24) hx hb dX2_isEdge_17 (by decide) (fun c_3 => ?_) (fun c_3 => ?_)
      · skip
        have c_3 : (thB (sTh v) (sTn v) t) = false := bI_f c_3
        refine lv_iconst (v := nI (0)) hx hb dX2_isEdge_24 (by decide) ?_
        exact ro_zret hx hb hr (by decide) (rb_0 (by first | (rw [inB_neg (by assumption)]; rfl) | (rw [inB_big (by omega) (by assumption)]; rfl) | (simp [c_3]; done))) dX2_isEdge_25 hlocks
      · skip
        have c_3 : (thB (sTh v) (sTn v) t) = true := bI_t c_3
        refine lv_iconst (v := nI (1)) hx hb dX2_isEdge_20 (by decide) ?_
        refine lv_goto (tgt := 25) hx hb dX2_isEdge_21 (by decide) ?_
        exact ro_zret hx hb hr (by decide) (rb_1 (by rw [inB_in (by omega) c_1 c_2]; simp [c_3])) dX2_isEdge_25 hlocks
set_option maxHeartbeats 4000000 in
set_option maxRecDepth 100000 in
theorem c_X2_turnOf (l : Launch) (dC : Nat → ClassId) (dI : Nat → Nat → Nat) (cI cL cZ : ClassId) (a : Nat → Nat) (v : SV) (t : Nat) (hv : okS v) (ht : t < 200) : Met l yX2_turnOf wsX2_turnOf ({ frames := 2, cells := 0, slots := 0, locals := 47 }) (va_Pc [.ref (a 0), .int (nI (t))] (ro_B (dC, dI) vwCl (wS cI cL a v) (tyS cI cL cZ))) (k2_QcV (.int (iI (twi v.1 t)))) 0 0 (fun _ => False) := by
  refine ro_Met (cc := cX2_turnOf) (maxL := 2) (ret := (some .int)) (by decide) rfl (Nat.le_of_ble_eq_true rfl) ?_
  intro pr en s m below meth co ls hx hb hml hr hlocks hown hts hP hK hl
  have hl : lv_has ls 2 [(0, .ref (a 0)), (1, .int (nI (t)))] := hl
  have hown : s.vm.findClass RX2 = some m.cls := hown
  have hvp : sPn v ≤ 60 ∧ sTn v ≤ 60 ∧ sTm v ≤ 200 := ⟨hv.2.1, hv.2.2.2.1, hv.2.2.2.2.1⟩
  have hg0 := gc_lt hv.1 (t := t) (k := 0)
  have hg1 := gc_lt hv.1 (t := t) (k := 1)
  have hg2 := gc_lt hv.1 (t := t) (k := 2)
  refine lv_aload_n hx hb dX2_turnOf_0 rfl (lv_at hl 0 rfl) ?_
  refine va_get (D := (dC, dI)) (ci := 2) (v := .ref (a 1)) (C := RX2) (T := TX2) (N := 6) hx hb hts (by decide +kernel) hown hK hP 0 rfl rfl 0 (by decide) (hts (.fieldLink RX2 10 "TriangleSheet" "points" "LTriangleSheet$Points;") (by decide +kernel)) (fun _ h9 => h9) rfl dX2_turnOf_1 ?_
  refine lv_aload_n hx hb dX2_turnOf_4 rfl (lv_at hl 0 rfl) ?_
  refine va_get (D := (dC, dI)) (ci := 2) (v := .ref (a 4)) (C := RX2) (T := TX2) (N := 6) hx hb hts (by decide +kernel) hown hK hP 0 rfl rfl 1 (by decide) (hts (.fieldLink RX2 19 "TriangleSheet" "triangles" "LTriangleSheet$Triangles;") (by decide +kernel)) (fun _ h9 => h9) rfl dX2_turnOf_5 ?_
  refine lv_iload_n hx hb dX2_turnOf_8 rfl (lv_at hl 1 rfl) ?_
  refine lv_iconst (v := nI (0)) hx hb dX2_turnOf_9 (by decide) ?_
  refine ro_V (As := [.int (nI (t)), .int (nI (0))]) (rest := [.ref (a 1)]) (q0 := 4) (ci := 1) hx hb hml hown hts (c_X1_cornerOf l dC dI cI cL cZ a v t 0 (by omega) (by omega)) (cwV 2 hts gX2_turnOf_X1_cornerOf rfl rfl rfl (by decide +kernel) ⟨Nat.le_of_ble_eq_true rfl, Nat.le_of_ble_eq_true rfl⟩) hK hP rfl rfl rfl hl.1 rfl (Nat.le_of_ble_eq_true rfl) dX2_turnOf_10 ⟨Nat.zero_le _, Nat.zero_le _⟩ ?_
  refine lv_aload_n hx hb dX2_turnOf_13 rfl (lv_at hl 0 rfl) ?_
  refine va_get (D := (dC, dI)) (ci := 2) (v := .ref (a 4)) (C := RX2) (T := TX2) (N := 6) hx hb hts (by decide +kernel) hown hK hP 0 rfl rfl 1 (by decide) (hts (.fieldLink RX2 19 "TriangleSheet" "triangles" "LTriangleSheet$Triangles;") (by decide +kernel)) (fun _ h9 => h9) rfl dX2_turnOf_14 ?_
  refine lv_iload_n hx hb dX2_turnOf_17 rfl (lv_at hl 1 rfl) ?_
  refine lv_iconst (v := nI (1)) hx hb dX2_turnOf_18 (by decide) ?_
  refine ro_V (As := [.int (nI (t)), .int (nI (1))]) (rest := [.int (nI (gc v.1 t 0)), .ref (a 1)]) (q0 := 4) (ci := 1) hx hb hml hown hts (c_X1_cornerOf l dC dI cI cL cZ a v t 1 (by omega) (by omega)) (cwV 2 hts gX2_turnOf_X1_cornerOf rfl rfl rfl (by decide +kernel) ⟨Nat.le_of_ble_eq_true rfl, Nat.le_of_ble_eq_true rfl⟩) hK hP rfl rfl rfl hl.1 rfl (Nat.le_of_ble_eq_true rfl) dX2_turnOf_19 ⟨Nat.zero_le _, Nat.zero_le _⟩ ?_
  refine lv_aload_n hx hb dX2_turnOf_22 rfl (lv_at hl 0 rfl) ?_
  refine va_get (D := (dC, dI)) (ci := 2) (v := .ref (a 4)) (C := RX2) (T := TX2) (N := 6) hx hb hts (by decide +kernel) hown hK hP 0 rfl rfl 1 (by decide) (hts (.fieldLink RX2 19 "TriangleSheet" "triangles" "LTriangleSheet$Triangles;") (by decide +kernel)) (fun _ h9 => h9) rfl dX2_turnOf_23 ?_
  refine lv_iload_n hx hb dX2_turnOf_26 rfl (lv_at hl 1 rfl) ?_
  refine lv_iconst (v := nI (2)) hx hb dX2_turnOf_27 (by decide) ?_
  refine ro_V (As := [.int (nI (t)), .int (nI (2))]) (rest := [.int (nI (gc v.1 t 1)), .int (nI (gc v.1 t 0)), .ref (a 1)]) (q0 := 4) (ci := 1) hx hb hml hown hts (c_X1_cornerOf l dC dI cI cL cZ a v t 2 (by omega) (by omega)) (cwV 2 hts gX2_turnOf_X1_cornerOf rfl rfl rfl (by decide +kernel) ⟨Nat.le_of_ble_eq_true rfl, Nat.le_of_ble_eq_true rfl⟩) hK hP rfl rfl rfl hl.1 rfl (Nat.le_of_ble_eq_true rfl) dX2_turnOf_28 ⟨Nat.zero_le _, Nat.zero_le _⟩ ?_
  refine ro_V (As := [.int (nI (gc v.1 t 0)), .int (nI (gc v.1 t 1)), .int (nI (gc v.1 t 2))]) (rest := []) (q0 := 1) (ci := 0) hx hb hml hown hts (c_X0_turnOf l dC dI cI cL cZ a v (gc v.1 t 0) (gc v.1 t 1) (gc v.1 t 2) (by omega) (by omega) (by omega)) (cwV 3 hts gX2_turnOf_X0_turnOf rfl rfl rfl (by decide +kernel) ⟨Nat.le_of_ble_eq_true rfl, Nat.le_of_ble_eq_true rfl⟩) hK hP rfl rfl rfl hl.1 rfl (Nat.le_of_ble_eq_true rfl) dX2_turnOf_31 ⟨Nat.zero_le _, Nat.zero_le _⟩ ?_
  exact ro_iret hx hb hr rfl dX2_turnOf_34 hlocks
set_option maxHeartbeats 4000000 in
set_option maxRecDepth 100000 in
theorem c_X2_isRight (l : Launch) (dC : Nat → ClassId) (dI : Nat → Nat → Nat) (cI cL cZ : ClassId) (a : Nat → Nat) (v : SV) (t : Nat) (hv : okS v) (ht : t < 200) : Met l yX2_isRight wsX2_isRight ({ frames := 3, cells := 0, slots := 0, locals := 68 }) (va_Pc [.ref (a 0), .int (nI (t))] (ro_B (dC, dI) vwCl (wS cI cL a v) (tyS cI cL cZ))) (k2_QcV (.int (bI (rgt v.1 t)))) 0 0 (fun _ => False) := by
  refine ro_Met (cc := cX2_isRight) (maxL := 2) (ret := (some .boolean)) (by decide) rfl (Nat.le_of_ble_eq_true rfl) ?_
  intro pr en s m below meth co ls hx hb hml hr hlocks hown hts hP hK hl
  have hl : lv_has ls 2 [(0, .ref (a 0)), (1, .int (nI (t)))] := hl
  have hown : s.vm.findClass RX2 = some m.cls := hown
  have hvp : sPn v ≤ 60 ∧ sTn v ≤ 60 ∧ sTm v ≤ 200 := ⟨hv.2.1, hv.2.2.2.1, hv.2.2.2.2.1⟩
  refine lv_aload_n hx hb dX2_isRight_0 rfl (lv_at hl 0 rfl) ?_
  refine lv_iload_n hx hb dX2_isRight_1 rfl (lv_at hl 1 rfl) ?_
  refine ro_V (As := [.int (nI (t))]) (rest := []) (q0 := 0) (ci := 2) hx hb hml hown hts (c_X2_turnOf l dC dI cI cL cZ a v t hv (by omega)) (cwV 1 hts gX2_isRight_X2_turnOf rfl rfl rfl (by decide +kernel) ⟨Nat.le_of_ble_eq_true rfl, Nat.le_of_ble_eq_true rfl⟩) hK hP rfl rfl rfl hl.1 rfl (Nat.le_of_ble_eq_true rfl) dX2_isRight_2 ⟨Nat.zero_le _, Nat.zero_le _⟩ ?_
  have ps_1 : zOk (twi v.1 t) := tof_ok hv.1
  refine lv_if_le (tgt := 12) hx hb dX2_isRight_5 (by decide) (fun c_2 => ?_) (fun c_2 => ?_)
  · skip
    have c_2 : (twi v.1 t) ≤ 0 := (z0_le (by assumption)).mp c_2
    refine lv_iconst (v := nI (0)) hx hb dX2_isRight_12 (by decide) ?_
    exact ro_zret hx hb hr (by decide) (rb_0 (by simp [rgt]; omega)) dX2_isRight_13 hlocks
  · skip
    have c_2 : ¬ ((twi v.1 t) ≤ 0) := fun hq9 => c_2 ((z0_le (by assumption)).mpr hq9)
    refine lv_iconst (v := nI (1)) hx hb dX2_isRight_8 (by decide) ?_
    refine lv_goto (tgt := 13) hx hb dX2_isRight_9 (by decide) ?_
    exact ro_zret hx hb hr (by decide) (rb_1 (by simp [rgt]; omega)) dX2_isRight_13 hlocks
set_option maxHeartbeats 4000000 in
set_option maxRecDepth 100000 in
theorem c_X2_turnBesideEdge (l : Launch) (dC : Nat → ClassId) (dI : Nat → Nat → Nat) (cI cL cZ : ClassId) (a : Nat → Nat) (v : SV) (t j x y : Nat) (hv : okS v) (ht : t < 200) (hj : j < 4) : Met l yX2_turnBesideEdge wsX2_turnBesideEdge ({ frames := 1, cells := 0, slots := 0, locals := 24 }) (va_Pc [.ref (a 0), .int (nI (t)), .int (nI (j)), .int (nI (x)), .int (nI (y))] (ro_B (dC, dI) vwCl (wS cI cL a v) (tyS cI cL cZ))) (k2_QcV (.int (iI (tbe v.1 t j (x : Int) (y : Int))))) 0 0 (fun _ => False) := by
  refine ro_Met (cc := cX2_turnBesideEdge) (maxL := 5) (ret := (some .int)) (by decide) rfl (Nat.le_of_ble_eq_true rfl) ?_
  intro pr en s m below meth co ls hx hb hml hr hlocks hown hts hP hK hl
  have hl : lv_has ls 5 [(0, .ref (a 0)), (1, .int (nI (t))), (2, .int (nI (j))), (3, .int (nI (x))), (4, .int (nI (y)))] := hl
  have hown : s.vm.findClass RX2 = some m.cls := hown
  have hvp : sPn v ≤ 60 ∧ sTn v ≤ 60 ∧ sTm v ≤ 200 := ⟨hv.2.1, hv.2.2.2.1, hv.2.2.2.2.1⟩
  have hg0 := gc_lt hv.1 (t := t) (k := j)
  have hg1 := gc_lt hv.1 (t := t) (k := j + 1)
  refine lv_aload_n hx hb dX2_turnBesideEdge_0 rfl (lv_at hl 0 rfl) ?_
  refine va_get (D := (dC, dI)) (ci := 2) (v := .ref (a 1)) (C := RX2) (T := TX2) (N := 6) hx hb hts (by decide +kernel) hown hK hP 0 rfl rfl 0 (by decide) (hts (.fieldLink RX2 10 "TriangleSheet" "points" "LTriangleSheet$Points;") (by decide +kernel)) (fun _ h9 => h9) rfl dX2_turnBesideEdge_1 ?_
  refine lv_aload_n hx hb dX2_turnBesideEdge_4 rfl (lv_at hl 0 rfl) ?_
  refine va_get (D := (dC, dI)) (ci := 2) (v := .ref (a 4)) (C := RX2) (T := TX2) (N := 6) hx hb hts (by decide +kernel) hown hK hP 0 rfl rfl 1 (by decide) (hts (.fieldLink RX2 19 "TriangleSheet" "triangles" "LTriangleSheet$Triangles;") (by decide +kernel)) (fun _ h9 => h9) rfl dX2_turnBesideEdge_5 ?_
  refine lv_iload_n hx hb dX2_turnBesideEdge_8 rfl (lv_at hl 1 rfl) ?_
  refine lv_iload_n hx hb dX2_turnBesideEdge_9 rfl (lv_at hl 2 rfl) ?_
  refine ro_V (As := [.int (nI (t)), .int (nI (j))]) (rest := [.ref (a 1)]) (q0 := 4) (ci := 1) hx hb hml hown hts (c_X1_cornerOf l dC dI cI cL cZ a v t j (by omega) (by omega)) (cwV 2 hts gX2_turnBesideEdge_X1_cornerOf rfl rfl rfl (by decide +kernel) ⟨Nat.le_of_ble_eq_true rfl, Nat.le_of_ble_eq_true rfl⟩) hK hP rfl rfl rfl hl.1 rfl (Nat.le_of_ble_eq_true rfl) dX2_turnBesideEdge_10 ⟨Nat.zero_le _, Nat.zero_le _⟩ ?_
  refine lv_aload_n hx hb dX2_turnBesideEdge_13 rfl (lv_at hl 0 rfl) ?_
  refine va_get (D := (dC, dI)) (ci := 2) (v := .ref (a 4)) (C := RX2) (T := TX2) (N := 6) hx hb hts (by decide +kernel) hown hK hP 0 rfl rfl 1 (by decide) (hts (.fieldLink RX2 19 "TriangleSheet" "triangles" "LTriangleSheet$Triangles;") (by decide +kernel)) (fun _ h9 => h9) rfl dX2_turnBesideEdge_14 ?_
  refine lv_iload_n hx hb dX2_turnBesideEdge_17 rfl (lv_at hl 1 rfl) ?_
  refine lv_iload_n hx hb dX2_turnBesideEdge_18 rfl (lv_at hl 2 rfl) ?_
  refine lv_iconst (v := nI (1)) hx hb dX2_turnBesideEdge_19 (by decide) ?_
  refine lv_iadd hx hb dX2_turnBesideEdge_20 ?_
  refine rt_i (y := (nI (j + 1))) (nn_add (j) (1)) ?_
  refine ro_V (As := [.int (nI (t)), .int (nI (j + 1))]) (rest := [.int (nI (gc v.1 t j)), .ref (a 1)]) (q0 := 4) (ci := 1) hx hb hml hown hts (c_X1_cornerOf l dC dI cI cL cZ a v t (j + 1) (by omega) (by omega)) (cwV 2 hts gX2_turnBesideEdge_X1_cornerOf rfl rfl rfl (by decide +kernel) ⟨Nat.le_of_ble_eq_true rfl, Nat.le_of_ble_eq_true rfl⟩) hK hP rfl rfl rfl hl.1 rfl (Nat.le_of_ble_eq_true rfl) dX2_turnBesideEdge_21 ⟨Nat.zero_le _, Nat.zero_le _⟩ ?_
  refine lv_iload_n hx hb dX2_turnBesideEdge_24 rfl (lv_at hl 3 rfl) ?_
  refine lv_iload hx hb dX2_turnBesideEdge_25 (lv_at hl 4 rfl) ?_
  refine ro_V (As := [.int (nI (gc v.1 t j)), .int (nI (gc v.1 t (j + 1))), .int (nI (x)), .int (nI (y))]) (rest := []) (q0 := 1) (ci := 0) hx hb hml hown hts (c_X0_turnAt l dC dI cI cL cZ a v (gc v.1 t j) (gc v.1 t (j + 1)) x y (by omega) (by omega)) (cwV 4 hts gX2_turnBesideEdge_X0_turnAt rfl rfl rfl (by decide +kernel) ⟨Nat.le_of_ble_eq_true rfl, Nat.le_of_ble_eq_true rfl⟩) hK hP rfl rfl rfl hl.1 rfl (Nat.le_of_ble_eq_true rfl) dX2_turnBesideEdge_27 ⟨Nat.zero_le _, Nat.zero_le _⟩ ?_
  exact ro_iret hx hb hr rfl dX2_turnBesideEdge_30 hlocks
set_option maxHeartbeats 4000000 in
set_option maxRecDepth 100000 in
theorem c_X2_hasPlace (l : Launch) (dC : Nat → ClassId) (dI : Nat → Nat → Nat) (cI cL cZ : ClassId) (a : Nat → Nat) (v : SV) (t x y : Nat) (hv : okS v) (ht : t < 200) (hx : x < 512) (hy : y < 512) : Met l yX2_hasPlace wsX2_hasPlace ({ frames := 2, cells := 0, slots := 0, locals := 48 }) (va_Pc [.ref (a 0), .int (nI (t)), .int (nI (x)), .int (nI (y))] (ro_B (dC, dI) vwCl (wS cI cL a v) (tyS cI cL cZ))) (k2_QcV (.int (bI (has v.1 t (x : Int) (y : Int))))) 0 0 (fun _ => False) := by
  refine ro_Met (cc := cX2_hasPlace) (maxL := 5) (ret := (some .boolean)) (by decide) rfl (Nat.le_of_ble_eq_true rfl) ?_
  intro pr en s m below meth co ls hx hb hml hr hlocks hown hts hP hK hl
  have hl : lv_has ls 5 [(0, .ref (a 0)), (1, .int (nI (t))), (2, .int (nI (x))), (3, .int (nI (y)))] := hl
  have hown : s.vm.findClass RX2 = some m.cls := hown
  have hvp : sPn v ≤ 60 ∧ sTn v ≤ 60 ∧ sTm v ≤ 200 := ⟨hv.2.1, hv.2.2.2.1, hv.2.2.2.2.1⟩
  refine lv_iconst (v := nI (0)) hx hb dX2_hasPlace_0 (by decide) ?_
  refine lv_istore (lv' := [(4, .int (nI (0))), (0, .ref (a 0)), (1, .int (nI (t))), (2, .int (nI (x))), (3, .int (nI (y)))]) hx hb dX2_hasPlace_1 hl (by decide) rfl (fun ls hl => ?_)
  refine lp (σ := Nat) (LV := fun n => [(0, .ref (a 0)), (1, .int (nI (t))), (2, .int (nI (x))), (3, .int (nI (y))), (4, .int (nI (n)))]) (I := fun k n => n + k = 3 ∧ has v.1 t (x : Int) (y : Int) = alf (fun k => decide (0 ≤ tbe v.1 t k (x : Int) (y : Int))) k n) (fun k n ls hI_k hl ih_k => ?_) (3) (0) ls ⟨by omega, rfl⟩ (lv_sub hl [1, 2, 3, 4, 0] rfl)
  obtain ⟨hk, hi⟩ := hI_k
  refine lv_iload hx hb dX2_hasPlace_3 (lv_at hl 4 rfl) ?_
  refine lv_iconst (v := nI (3)) hx hb dX2_hasPlace_5 (by decide) ?_
  refine lv_icmp_ge (tgt := 29) hx hb dX2_hasPlace_6 (by decide) (fun c_1 => ?_) (fun c_1 => ?_)
  · skip
    have c_1 : 3 ≤ n := (nI_leI (a := 3) (b := n) (by omega) (by omega)).mp c_1
    refine lv_iconst (v := nI (1)) hx hb dX2_hasPlace_29 (by decide) ?_
    exact ro_zret hx hb hr (by decide) (rb_1 (by rw [hi, show k = 0 by omega]; rfl)) dX2_hasPlace_30 hlocks
  · skip
    have c_1 : ¬ (3 ≤ n) := fun hq9 => c_1 ((nI_leI (a := 3) (b := n) (by omega) (by omega)).mpr hq9)
    refine lv_aload_n hx hb dX2_hasPlace_9 rfl (lv_at hl 0 rfl) ?_
    refine lv_iload_n hx hb dX2_hasPlace_10 rfl (lv_at hl 1 rfl) ?_
    refine lv_iload hx hb dX2_hasPlace_11 (lv_at hl 4 rfl) ?_
    refine lv_iload_n hx hb dX2_hasPlace_13 rfl (lv_at hl 2 rfl) ?_
    refine lv_iload_n hx hb dX2_hasPlace_14 rfl (lv_at hl 3 rfl) ?_
    refine ro_V (As := [.int (nI (t)), .int (nI (n)), .int (nI (x)), .int (nI (y))]) (rest := []) (q0 := 0) (ci := 2) hx hb hml hown hts (c_X2_turnBesideEdge l dC dI cI cL cZ a v t n x y hv (by omega) (by omega)) (cwV 4 hts gX2_hasPlace_X2_turnBesideEdge rfl rfl rfl (by decide +kernel) ⟨Nat.le_of_ble_eq_true rfl, Nat.le_of_ble_eq_true rfl⟩) hK hP rfl rfl rfl hl.1 rfl (Nat.le_of_ble_eq_true rfl) dX2_hasPlace_15 ⟨Nat.zero_le _, Nat.zero_le _⟩ ?_
    have ps_2 : zOk (tbe v.1 t n ((x : Nat) : Int) ((y : Nat) : Int)) := tat_ok hv.1 (by omega) (by omega)
    refine lv_if_ge (tgt := 23) hx hb dX2_hasPlace_18 (by decide) (fun c_3 => ?_) (fun c_3 => ?_)
    · skip
      have c_3 : 0 ≤ (tbe v.1 t n (x : Int) (y : Int)) := (l0_le (by assumption)).mp c_3
      refine lv_iinc (v := nI (n + 1)) (lv' := [(4, .int (nI (n + 1))), (0, .ref (a 0)), (1, .int (nI (t))), (2, .int (nI (x))), (3, .int (nI (y)))]) hx hb dX2_hasPlace_23 hl (k := 4) rfl (nI_1 (n)) (by decide) rfl (fun ls hl => ?_)
      refine lv_goto (tgt := 3) hx hb dX2_hasPlace_26 (by decide) ?_
      exact ih_k (k - 1) (n + 1) ls (by omega) ⟨by omega, hi.trans (alf_t (by omega) (by simp [c_1, c_3]))⟩ (lv_sub hl [1, 2, 3, 4, 0] rfl)
    · skip
      have c_3 : ¬ (0 ≤ (tbe v.1 t n (x : Int) (y : Int))) := fun hq9 => c_3 ((l0_le (by assumption)).mpr hq9)
      refine lv_iconst (v := nI (0)) hx hb dX2_hasPlace_21 (by decide) ?_
      exact ro_zret hx hb hr (by decide) (rb_0 (by rw [hi, alf_f (by omega) (by simp [c_1, c_3])])) dX2_hasPlace_22 hlocks
set_option maxHeartbeats 4000000 in
set_option maxRecDepth 100000 in
theorem c_X2_isWithin (l : Launch) (dC : Nat → ClassId) (dI : Nat → Nat → Nat) (cI cL cZ : ClassId) (a : Nat → Nat) (v : SV) (t x y : Nat) (hv : okS v) (ht : t < 200) (hx : x < 512) (hy : y < 512) : Met l yX2_isWithin wsX2_isWithin ({ frames := 2, cells := 0, slots := 0, locals := 48 }) (va_Pc [.ref (a 0), .int (nI (t)), .int (nI (x)), .int (nI (y))] (ro_B (dC, dI) vwCl (wS cI cL a v) (tyS cI cL cZ))) (k2_QcV (.int (bI (wit v.1 t (x : Int) (y : Int))))) 0 0 (fun _ => False) := by
  refine ro_Met (cc := cX2_isWithin) (maxL := 5) (ret := (some .boolean)) (by decide) rfl (Nat.le_of_ble_eq_true rfl) ?_
  intro pr en s m below meth co ls hx hb hml hr hlocks hown hts hP hK hl
  have hl : lv_has ls 5 [(0, .ref (a 0)), (1, .int (nI (t))), (2, .int (nI (x))), (3, .int (nI (y)))] := hl
  have hown : s.vm.findClass RX2 = some m.cls := hown
  have hvp : sPn v ≤ 60 ∧ sTn v ≤ 60 ∧ sTm v ≤ 200 := ⟨hv.2.1, hv.2.2.2.1, hv.2.2.2.2.1⟩
  refine lv_iconst (v := nI (0)) hx hb dX2_isWithin_0 (by decide) ?_
  refine lv_istore (lv' := [(4, .int (nI (0))), (0, .ref (a 0)), (1, .int (nI (t))), (2, .int (nI (x))), (3, .int (nI (y)))]) hx hb dX2_isWithin_1 hl (by decide) rfl (fun ls hl => ?_)
  refine lp (σ := Nat) (LV := fun n => [(0, .ref (a 0)), (1, .int (nI (t))), (2, .int (nI (x))), (3, .int (nI (y))), (4, .int (nI (n)))]) (I := fun k n => n + k = 3 ∧ wit v.1 t (x : Int) (y : Int) = alf (fun k => decide (0 < tbe v.1 t k (x : Int) (y : Int))) k n) (fun k n ls hI_k hl ih_k => ?_) (3) (0) ls ⟨by omega, rfl⟩ (lv_sub hl [1, 2, 3, 4, 0] rfl)
  obtain ⟨hk, hi⟩ := hI_k
  refine lv_iload hx hb dX2_isWithin_3 (lv_at hl 4 rfl) ?_
  refine lv_iconst (v := nI (3)) hx hb dX2_isWithin_5 (by decide) ?_
  refine lv_icmp_ge (tgt := 29) hx hb dX2_isWithin_6 (by decide) (fun c_1 => ?_) (fun c_1 => ?_)
  · skip
    have c_1 : 3 ≤ n := (nI_leI (a := 3) (b := n) (by omega) (by omega)).mp c_1
    refine lv_iconst (v := nI (1)) hx hb dX2_isWithin_29 (by decide) ?_
    exact ro_zret hx hb hr (by decide) (rb_1 (by rw [hi, show k = 0 by omega]; rfl)) dX2_isWithin_30 hlocks
  · skip
    have c_1 : ¬ (3 ≤ n) := fun hq9 => c_1 ((nI_leI (a := 3) (b := n) (by omega) (by omega)).mpr hq9)
    refine lv_aload_n hx hb dX2_isWithin_9 rfl (lv_at hl 0 rfl) ?_
    refine lv_iload_n hx hb dX2_isWithin_10 rfl (lv_at hl 1 rfl) ?_
    refine lv_iload hx hb dX2_isWithin_11 (lv_at hl 4 rfl) ?_
    refine lv_iload_n hx hb dX2_isWithin_13 rfl (lv_at hl 2 rfl) ?_
    refine lv_iload_n hx hb dX2_isWithin_14 rfl (lv_at hl 3 rfl) ?_
    refine ro_V (As := [.int (nI (t)), .int (nI (n)), .int (nI (x)), .int (nI (y))]) (rest := []) (q0 := 0) (ci := 2) hx hb hml hown hts (c_X2_turnBesideEdge l dC dI cI cL cZ a v t n x y hv (by omega) (by omega)) (cwV 4 hts gX2_isWithin_X2_turnBesideEdge rfl rfl rfl (by decide +kernel) ⟨Nat.le_of_ble_eq_true rfl, Nat.le_of_ble_eq_true rfl⟩) hK hP rfl rfl rfl hl.1 rfl (Nat.le_of_ble_eq_true rfl) dX2_isWithin_15 ⟨Nat.zero_le _, Nat.zero_le _⟩ ?_
    have ps_2 : zOk (tbe v.1 t n ((x : Nat) : Int) ((y : Nat) : Int)) := tat_ok hv.1 (by omega) (by omega)
    refine lv_if_gt (tgt := 23) hx hb dX2_isWithin_18 (by decide) (fun c_3 => ?_) (fun c_3 => ?_)
    · skip
      have c_3 : 0 < (tbe v.1 t n (x : Int) (y : Int)) := (l0_lt (by assumption)).mp c_3
      refine lv_iinc (v := nI (n + 1)) (lv' := [(4, .int (nI (n + 1))), (0, .ref (a 0)), (1, .int (nI (t))), (2, .int (nI (x))), (3, .int (nI (y)))]) hx hb dX2_isWithin_23 hl (k := 4) rfl (nI_1 (n)) (by decide) rfl (fun ls hl => ?_)
      refine lv_goto (tgt := 3) hx hb dX2_isWithin_26 (by decide) ?_
      exact ih_k (k - 1) (n + 1) ls (by omega) ⟨by omega, hi.trans (alf_t (by omega) (by simp [c_1, c_3]))⟩ (lv_sub hl [1, 2, 3, 4, 0] rfl)
    · skip
      have c_3 : ¬ (0 < (tbe v.1 t n (x : Int) (y : Int))) := fun hq9 => c_3 ((l0_lt (by assumption)).mpr hq9)
      refine lv_iconst (v := nI (0)) hx hb dX2_isWithin_21 (by decide) ?_
      exact ro_zret hx hb hr (by decide) (rb_0 (by rw [hi, alf_f (by omega) (by simp [c_1, c_3])])) dX2_isWithin_22 hlocks
set_option maxHeartbeats 4000000 in
set_option maxRecDepth 100000 in
theorem c_X2_ownsEdge (l : Launch) (dC : Nat → ClassId) (dI : Nat → Nat → Nat) (cI cL cZ : ClassId) (a : Nat → Nat) (v : SV) (t j : Nat) (hv : okS v) (ht : t < 200) (hj : j < 4) : Met l yX2_ownsEdge wsX2_ownsEdge ({ frames := 1, cells := 0, slots := 0, locals := 22 }) (va_Pc [.ref (a 0), .int (nI (t)), .int (nI (j))] (ro_B (dC, dI) vwCl (wS cI cL a v) (tyS cI cL cZ))) (k2_QcV (.int (bI (own v.1 t j)))) 0 0 (fun _ => False) := by
  refine ro_Met (cc := cX2_ownsEdge) (maxL := 5) (ret := (some .boolean)) (by decide) rfl (Nat.le_of_ble_eq_true rfl) ?_
  intro pr en s m below meth co ls hx hb hml hr hlocks hown hts hP hK hl
  have hl : lv_has ls 5 [(0, .ref (a 0)), (1, .int (nI (t))), (2, .int (nI (j)))] := hl
  have hown : s.vm.findClass RX2 = some m.cls := hown
  have hvp : sPn v ≤ 60 ∧ sTn v ≤ 60 ∧ sTm v ≤ 200 := ⟨hv.2.1, hv.2.2.2.1, hv.2.2.2.2.1⟩
  have hg0 := gc_lt hv.1 (t := t) (k := j)
  have hg1 := gc_lt hv.1 (t := t) (k := j + 1)
  have hq0 := hv.1.1 (gc v.1 t (j + 0))
  have hq1 := hv.1.1 (gc v.1 t (j + 1))
  have hq2 := hv.1.2.1 (gc v.1 t (j + 0))
  have hq3 := hv.1.2.1 (gc v.1 t (j + 1))
  have hr0 := hv.1.1 (gc v.1 t j)
  have hr1 := hv.1.2.1 (gc v.1 t j)
  refine lv_aload_n hx hb dX2_ownsEdge_0 rfl (lv_at hl 0 rfl) ?_
  refine va_get (D := (dC, dI)) (ci := 2) (v := .ref (a 4)) (C := RX2) (T := TX2) (N := 6) hx hb hts (by decide +kernel) hown hK hP 0 rfl rfl 1 (by decide) (hts (.fieldLink RX2 19 "TriangleSheet" "triangles" "LTriangleSheet$Triangles;") (by decide +kernel)) (fun _ h9 => h9) rfl dX2_ownsEdge_1 ?_
  refine lv_iload_n hx hb dX2_ownsEdge_4 rfl (lv_at hl 1 rfl) ?_
  refine lv_iload_n hx hb dX2_ownsEdge_5 rfl (lv_at hl 2 rfl) ?_
  refine ro_V (As := [.int (nI (t)), .int (nI (j))]) (rest := []) (q0 := 4) (ci := 1) hx hb hml hown hts (c_X1_cornerOf l dC dI cI cL cZ a v t j (by omega) (by omega)) (cwV 2 hts gX2_ownsEdge_X1_cornerOf rfl rfl rfl (by decide +kernel) ⟨Nat.le_of_ble_eq_true rfl, Nat.le_of_ble_eq_true rfl⟩) hK hP rfl rfl rfl hl.1 rfl (Nat.le_of_ble_eq_true rfl) dX2_ownsEdge_6 ⟨Nat.zero_le _, Nat.zero_le _⟩ ?_
  refine lv_istore_n (lv' := [(3, .int (nI (gc v.1 t j))), (0, .ref (a 0)), (1, .int (nI (t))), (2, .int (nI (j)))]) hx hb dX2_ownsEdge_9 rfl hl (by decide) rfl (fun ls hl => ?_)
  refine lv_aload_n hx hb dX2_ownsEdge_10 rfl (lv_at hl 1 rfl) ?_
  refine va_get (D := (dC, dI)) (ci := 2) (v := .ref (a 4)) (C := RX2) (T := TX2) (N := 6) hx hb hts (by decide +kernel) hown hK hP 0 rfl rfl 1 (by decide) (hts (.fieldLink RX2 19 "TriangleSheet" "triangles" "LTriangleSheet$Triangles;") (by decide +kernel)) (fun _ h9 => h9) rfl dX2_ownsEdge_11 ?_
  refine lv_iload_n hx hb dX2_ownsEdge_14 rfl (lv_at hl 2 rfl) ?_
  refine lv_iload_n hx hb dX2_ownsEdge_15 rfl (lv_at hl 3 rfl) ?_
  refine lv_iconst (v := nI (1)) hx hb dX2_ownsEdge_16 (by decide) ?_
  refine lv_iadd hx hb dX2_ownsEdge_17 ?_
  refine rt_i (y := (nI (j + 1))) (nn_add (j) (1)) ?_
  refine ro_V (As := [.int (nI (t)), .int (nI (j + 1))]) (rest := []) (q0 := 4) (ci := 1) hx hb hml hown hts (c_X1_cornerOf l dC dI cI cL cZ a v t (j + 1) (by omega) (by omega)) (cwV 2 hts gX2_ownsEdge_X1_cornerOf rfl rfl rfl (by decide +kernel) ⟨Nat.le_of_ble_eq_true rfl, Nat.le_of_ble_eq_true rfl⟩) hK hP rfl rfl rfl hl.1 rfl (Nat.le_of_ble_eq_true rfl) dX2_ownsEdge_18 ⟨Nat.zero_le _, Nat.zero_le _⟩ ?_
  refine lv_istore (lv' := [(4, .int (nI (gc v.1 t (j + 1)))), (3, .int (nI (gc v.1 t j))), (0, .ref (a 0)), (1, .int (nI (t))), (2, .int (nI (j)))]) hx hb dX2_ownsEdge_21 hl (by decide) rfl (fun ls hl => ?_)
  refine lv_aload_n hx hb dX2_ownsEdge_23 rfl (lv_at hl 2 rfl) ?_
  refine va_get (D := (dC, dI)) (ci := 2) (v := .ref (a 1)) (C := RX2) (T := TX2) (N := 6) hx hb hts (by decide +kernel) hown hK hP 0 rfl rfl 0 (by decide) (hts (.fieldLink RX2 10 "TriangleSheet" "points" "LTriangleSheet$Points;") (by decide +kernel)) (fun _ h9 => h9) rfl dX2_ownsEdge_24 ?_
  refine lv_iload hx hb dX2_ownsEdge_27 (lv_at hl 0 rfl) ?_
  refine ro_V (As := [.int (nI (gc v.1 t (j + 1)))]) (rest := []) (q0 := 1) (ci := 0) hx hb hml hown hts (c_X0_y l dC dI cI cL cZ a v (gc v.1 t (j + 1)) (by omega)) (cwV 1 hts gX2_ownsEdge_X0_y rfl rfl rfl (by decide +kernel) ⟨Nat.le_of_ble_eq_true rfl, Nat.le_of_ble_eq_true rfl⟩) hK hP rfl rfl rfl hl.1 rfl (Nat.le_of_ble_eq_true rfl) dX2_ownsEdge_29 ⟨Nat.zero_le _, Nat.zero_le _⟩ ?_
  refine lv_aload_n hx hb dX2_ownsEdge_32 rfl (lv_at hl 2 rfl) ?_
  refine va_get (D := (dC, dI)) (ci := 2) (v := .ref (a 1)) (C := RX2) (T := TX2) (N := 6) hx hb hts (by decide +kernel) hown hK hP 0 rfl rfl 0 (by decide) (hts (.fieldLink RX2 10 "TriangleSheet" "points" "LTriangleSheet$Points;") (by decide +kernel)) (fun _ h9 => h9) rfl dX2_ownsEdge_33 ?_
  refine lv_iload_n hx hb dX2_ownsEdge_36 rfl (lv_at hl 1 rfl) ?_
  refine ro_V (As := [.int (nI (gc v.1 t j))]) (rest := [.int (nI (v.1.2.1 (gc v.1 t (j + 1))))]) (q0 := 1) (ci := 0) hx hb hml hown hts (c_X0_y l dC dI cI cL cZ a v (gc v.1 t j) (by omega)) (cwV 1 hts gX2_ownsEdge_X0_y rfl rfl rfl (by decide +kernel) ⟨Nat.le_of_ble_eq_true rfl, Nat.le_of_ble_eq_true rfl⟩) hK hP rfl rfl rfl hl.1 rfl (Nat.le_of_ble_eq_true rfl) dX2_ownsEdge_37 ⟨Nat.zero_le _, Nat.zero_le _⟩ ?_
  refine lv_icmp_lt (tgt := 83) hx hb dX2_ownsEdge_40 (by decide) (fun c_1 => ?_) (fun c_1 => ?_)
  · skip
    have c_1 : v.1.2.1 (gc v.1 t (j + 1)) < v.1.2.1 (gc v.1 t j) := (nI_ltI (a := v.1.2.1 (gc v.1 t (j + 1))) (b := v.1.2.1 (gc v.1 t j)) (by omega) (by omega)).mp c_1
    refine lv_iconst (v := nI (1)) hx hb dX2_ownsEdge_83 (by decide) ?_
    refine lv_goto (tgt := 88) hx hb dX2_ownsEdge_84 (by decide) ?_
    exact ro_zret hx hb hr (by decide) (rb_1 (by first | (simp [own, c_1]; done) | (simp [own, c_1]; omega) | (simp [own]; omega))) dX2_ownsEdge_88 hlocks
  · skip
    have c_1 : ¬ (v.1.2.1 (gc v.1 t (j + 1)) < v.1.2.1 (gc v.1 t j)) := fun hq9 => c_1 ((nI_ltI (a := v.1.2.1 (gc v.1 t (j + 1))) (b := v.1.2.1 (gc v.1 t j)) (by omega) (by omega)).mpr hq9)
    refine lv_aload_n hx hb dX2_ownsEdge_43 rfl (lv_at hl 2 rfl) ?_
    refine va_get (D := (dC, dI)) (ci := 2) (v := .ref (a 1)) (C := RX2) (T := TX2) (N := 6) hx hb hts (by decide +kernel) hown hK hP 0 rfl rfl 0 (by decide) (hts (.fieldLink RX2 10 "TriangleSheet" "points" "LTriangleSheet$Points;") (by decide +kernel)) (fun _ h9 => h9) rfl dX2_ownsEdge_44 ?_
    refine lv_iload hx hb dX2_ownsEdge_47 (lv_at hl 0 rfl) ?_
    refine ro_V (As := [.int (nI (gc v.1 t (j + 1)))]) (rest := []) (q0 := 1) (ci := 0) hx hb hml hown hts (c_X0_y l dC dI cI cL cZ a v (gc v.1 t (j + 1)) (by omega)) (cwV 1 hts gX2_ownsEdge_X0_y rfl rfl rfl (by decide +kernel) ⟨Nat.le_of_ble_eq_true rfl, Nat.le_of_ble_eq_true rfl⟩) hK hP rfl rfl rfl hl.1 rfl (Nat.le_of_ble_eq_true rfl) dX2_ownsEdge_49 ⟨Nat.zero_le _, Nat.zero_le _⟩ ?_
    refine lv_aload_n hx hb dX2_ownsEdge_52 rfl (lv_at hl 2 rfl) ?_
    refine va_get (D := (dC, dI)) (ci := 2) (v := .ref (a 1)) (C := RX2) (T := TX2) (N := 6) hx hb hts (by decide +kernel) hown hK hP 0 rfl rfl 0 (by decide) (hts (.fieldLink RX2 10 "TriangleSheet" "points" "LTriangleSheet$Points;") (by decide +kernel)) (fun _ h9 => h9) rfl dX2_ownsEdge_53 ?_
    refine lv_iload_n hx hb dX2_ownsEdge_56 rfl (lv_at hl 1 rfl) ?_
    refine ro_V (As := [.int (nI (gc v.1 t j))]) (rest := [.int (nI (v.1.2.1 (gc v.1 t (j + 1))))]) (q0 := 1) (ci := 0) hx hb hml hown hts (c_X0_y l dC dI cI cL cZ a v (gc v.1 t j) (by omega)) (cwV 1 hts gX2_ownsEdge_X0_y rfl rfl rfl (by decide +kernel) ⟨Nat.le_of_ble_eq_true rfl, Nat.le_of_ble_eq_true rfl⟩) hK hP rfl rfl rfl hl.1 rfl (Nat.le_of_ble_eq_true rfl) dX2_ownsEdge_57 ⟨Nat.zero_le _, Nat.zero_le _⟩ ?_
    refine lv_icmp_ne (tgt := 87) hx hb dX2_ownsEdge_60 (by decide) (fun c_2 => ?_) (fun c_2 => ?_)
    · skip
      have c_2 : ¬ (v.1.2.1 (gc v.1 t (j + 1)) = v.1.2.1 (gc v.1 t j)) := fun hq9 => c_2 ((nI_eq (a := v.1.2.1 (gc v.1 t (j + 1))) (b := v.1.2.1 (gc v.1 t j)) (by omega) (by omega)).mpr hq9)
      refine lv_iconst (v := nI (0)) hx hb dX2_ownsEdge_87 (by decide) ?_
      exact ro_zret hx hb hr (by decide) (rb_0 (by first | (simp [own, c_1, c_2]; done) | (simp [own, c_1, c_2]; omega) | (simp [own]; omega))) dX2_ownsEdge_88 hlocks
    · skip
      have c_2 : v.1.2.1 (gc v.1 t (j + 1)) = v.1.2.1 (gc v.1 t j) := (nI_eq (a := v.1.2.1 (gc v.1 t (j + 1))) (b := v.1.2.1 (gc v.1 t j)) (by omega) (by omega)).mp c_2
      refine lv_aload_n hx hb dX2_ownsEdge_63 rfl (lv_at hl 2 rfl) ?_
      refine va_get (D := (dC, dI)) (ci := 2) (v := .ref (a 1)) (C := RX2) (T := TX2) (N := 6) hx hb hts (by decide +kernel) hown hK hP 0 rfl rfl 0 (by decide) (hts (.fieldLink RX2 10 "TriangleSheet" "points" "LTriangleSheet$Points;") (by decide +kernel)) (fun _ h9 => h9) rfl dX2_ownsEdge_64 ?_
      refine lv_iload hx hb dX2_ownsEdge_67 (lv_at hl 0 rfl) ?_
      refine ro_V (As := [.int (nI (gc v.1 t (j + 1)))]) (rest := []) (q0 := 1) (ci := 0) hx hb hml hown hts (c_X0_x l dC dI cI cL cZ a v (gc v.1 t (j + 1)) (by omega)) (cwV 1 hts gX2_ownsEdge_X0_x rfl rfl rfl (by decide +kernel) ⟨Nat.le_of_ble_eq_true rfl, Nat.le_of_ble_eq_true rfl⟩) hK hP rfl rfl rfl hl.1 rfl (Nat.le_of_ble_eq_true rfl) dX2_ownsEdge_69 ⟨Nat.zero_le _, Nat.zero_le _⟩ ?_
      refine lv_aload_n hx hb dX2_ownsEdge_72 rfl (lv_at hl 2 rfl) ?_
      refine va_get (D := (dC, dI)) (ci := 2) (v := .ref (a 1)) (C := RX2) (T := TX2) (N := 6) hx hb hts (by decide +kernel) hown hK hP 0 rfl rfl 0 (by decide) (hts (.fieldLink RX2 10 "TriangleSheet" "points" "LTriangleSheet$Points;") (by decide +kernel)) (fun _ h9 => h9) rfl dX2_ownsEdge_73 ?_
      refine lv_iload_n hx hb dX2_ownsEdge_76 rfl (lv_at hl 1 rfl) ?_
      refine ro_V (As := [.int (nI (gc v.1 t j))]) (rest := [.int (nI (v.1.1 (gc v.1 t (j + 1))))]) (q0 := 1) (ci := 0) hx hb hml hown hts (c_X0_x l dC dI cI cL cZ a v (gc v.1 t j) (by omega)) (cwV 1 hts gX2_ownsEdge_X0_x rfl rfl rfl (by decide +kernel) ⟨Nat.le_of_ble_eq_true rfl, Nat.le_of_ble_eq_true rfl⟩) hK hP rfl rfl rfl hl.1 rfl (Nat.le_of_ble_eq_true rfl) dX2_ownsEdge_77 ⟨Nat.zero_le _, Nat.zero_le _⟩ ?_
      refine lv_icmp_ge (tgt := 87) hx hb dX2_ownsEdge_80 (by decide) (fun c_3 => ?_) (fun c_3 => ?_)
      · skip
        have c_3 : v.1.1 (gc v.1 t j) ≤ v.1.1 (gc v.1 t (j + 1)) := (nI_leI (a := v.1.1 (gc v.1 t j)) (b := v.1.1 (gc v.1 t (j + 1))) (by omega) (by omega)).mp c_3
        refine lv_iconst (v := nI (0)) hx hb dX2_ownsEdge_87 (by decide) ?_
        exact ro_zret hx hb hr (by decide) (rb_0 (by first | (simp [own, c_1, c_2, c_3]; done) | (simp [own, c_1, c_2, c_3]; omega) | (simp [own]; omega))) dX2_ownsEdge_88 hlocks
      · skip
        have c_3 : ¬ (v.1.1 (gc v.1 t j) ≤ v.1.1 (gc v.1 t (j + 1))) := fun hq9 => c_3 ((nI_leI (a := v.1.1 (gc v.1 t j)) (b := v.1.1 (gc v.1 t (j + 1))) (by omega) (by omega)).mpr hq9)
        refine lv_iconst (v := nI (1)) hx hb dX2_ownsEdge_83 (by decide) ?_
        refine lv_goto (tgt := 88) hx hb dX2_ownsEdge_84 (by decide) ?_
        exact ro_zret hx hb hr (by decide) (rb_1 (by first | (simp [own, c_1, c_2, c_3]; done) | (simp [own, c_1, c_2, c_3]; omega) | (simp [own]; omega))) dX2_ownsEdge_88 hlocks
set_option maxHeartbeats 4000000 in
set_option maxRecDepth 100000 in
theorem c_X2_liesInsideOrOnOwnEdges (l : Launch) (dC : Nat → ClassId) (dI : Nat → Nat → Nat) (cI cL cZ : ClassId) (a : Nat → Nat) (v : SV) (t x y : Nat) (hv : okS v) (ht : t < 200) (hx : x < 512) (hy : y < 512) : Met l yX2_liesInsideOrOnOwnEdges wsX2_liesInsideOrOnOwnEdges ({ frames := 2, cells := 0, slots := 0, locals := 48 }) (va_Pc [.ref (a 0), .int (nI (t)), .int (nI (x)), .int (nI (y))] (ro_B (dC, dI) vwCl (wS cI cL a v) (tyS cI cL cZ))) (k2_QcV (.int (bI (lie v.1 t (x : Int) (y : Int))))) 0 0 (fun _ => False) := by
  refine ro_Met (cc := cX2_liesInsideOrOnOwnEdges) (maxL := 6) (ret := (some .boolean)) (by decide) rfl (Nat.le_of_ble_eq_true rfl) ?_
  intro pr en s m below meth co ls hx hb hml hr hlocks hown hts hP hK hl
  have hl : lv_has ls 6 [(0, .ref (a 0)), (1, .int (nI (t))), (2, .int (nI (x))), (3, .int (nI (y)))] := hl
  have hown : s.vm.findClass RX2 = some m.cls := hown
  have hvp : sPn v ≤ 60 ∧ sTn v ≤ 60 ∧ sTm v ≤ 200 := ⟨hv.2.1, hv.2.2.2.1, hv.2.2.2.2.1⟩
  refine lv_iconst (v := nI (0)) hx hb dX2_liesInsideOrOnOwnEdges_0 (by decide) ?_
  refine lv_istore (lv' := [(4, .int (nI (0))), (0, .ref (a 0)), (1, .int (nI (t))), (2, .int (nI (x))), (3, .int (nI (y)))]) hx hb dX2_liesInsideOrOnOwnEdges_1 hl (by decide) rfl (fun ls hl => ?_)
  refine lp (σ := Nat) (LV := fun n => [(0, .ref (a 0)), (1, .int (nI (t))), (2, .int (nI (x))), (3, .int (nI (y))), (4, .int (nI (n)))]) (I := fun k n => n + k = 3 ∧ lie v.1 t (x : Int) (y : Int) = alf (fun k => decide (0 < tbe v.1 t k (x : Int) (y : Int)) || (decide (tbe v.1 t k (x : Int) (y : Int) = 0) && own v.1 t k)) k n) (fun k n ls hI_k hl ih_k => ?_) (3) (0) ls ⟨by omega, rfl⟩ (lv_sub hl [1, 2, 3, 4, 0] rfl)
  obtain ⟨hk, hi⟩ := hI_k
  refine lv_iload hx hb dX2_liesInsideOrOnOwnEdges_3 (lv_at hl 4 rfl) ?_
  refine lv_iconst (v := nI (3)) hx hb dX2_liesInsideOrOnOwnEdges_5 (by decide) ?_
  refine lv_icmp_ge (tgt := 48) hx hb dX2_liesInsideOrOnOwnEdges_6 (by decide) (fun c_1 => ?_) (fun c_1 => ?_)
  · skip
    have c_1 : 3 ≤ n := (nI_leI (a := 3) (b := n) (by omega) (by omega)).mp c_1
    refine lv_iconst (v := nI (1)) hx hb dX2_liesInsideOrOnOwnEdges_48 (by decide) ?_
    exact ro_zret hx hb hr (by decide) (rb_1 (by rw [hi, show k = 0 by omega]; rfl)) dX2_liesInsideOrOnOwnEdges_49 hlocks
  · skip
    have c_1 : ¬ (3 ≤ n) := fun hq9 => c_1 ((nI_leI (a := 3) (b := n) (by omega) (by omega)).mpr hq9)
    refine lv_aload_n hx hb dX2_liesInsideOrOnOwnEdges_9 rfl (lv_at hl 0 rfl) ?_
    refine lv_iload_n hx hb dX2_liesInsideOrOnOwnEdges_10 rfl (lv_at hl 1 rfl) ?_
    refine lv_iload hx hb dX2_liesInsideOrOnOwnEdges_11 (lv_at hl 4 rfl) ?_
    refine lv_iload_n hx hb dX2_liesInsideOrOnOwnEdges_13 rfl (lv_at hl 2 rfl) ?_
    refine lv_iload_n hx hb dX2_liesInsideOrOnOwnEdges_14 rfl (lv_at hl 3 rfl) ?_
    refine ro_V (As := [.int (nI (t)), .int (nI (n)), .int (nI (x)), .int (nI (y))]) (rest := []) (q0 := 0) (ci := 2) hx hb hml hown hts (c_X2_turnBesideEdge l dC dI cI cL cZ a v t n x y hv (by omega) (by omega)) (cwV 4 hts gX2_liesInsideOrOnOwnEdges_X2_turnBesideEdge rfl rfl rfl (by decide +kernel) ⟨Nat.le_of_ble_eq_true rfl, Nat.le_of_ble_eq_true rfl⟩) hK hP rfl rfl rfl hl.1 rfl (Nat.le_of_ble_eq_true rfl) dX2_liesInsideOrOnOwnEdges_15 ⟨Nat.zero_le _, Nat.zero_le _⟩ ?_
    have ps_2 : zOk (tbe v.1 t n ((x : Nat) : Int) ((y : Nat) : Int)) := tat_ok hv.1 (by omega) (by omega)
    refine lv_istore (lv' := [(5, .int (iI (tbe v.1 t n (x : Int) (y : Int)))), (0, .ref (a 0)), (1, .int (nI (t))), (2, .int (nI (x))), (3, .int (nI (y))), (4, .int (nI (n)))]) hx hb dX2_liesInsideOrOnOwnEdges_18 hl (by decide) rfl (fun ls hl => ?_)
    refine lv_iload hx hb dX2_liesInsideOrOnOwnEdges_20 (lv_at hl 0 rfl) ?_
    refine lv_if_lt (tgt := 40) hx hb dX2_liesInsideOrOnOwnEdges_22 (by decide) (fun c_3 => ?_) (fun c_3 => ?_)
    · skip
      have c_3 : (tbe v.1 t n (x : Int) (y : Int)) < 0 := (z0_lt (by assumption)).mp c_3
      refine lv_iconst (v := nI (0)) hx hb dX2_liesInsideOrOnOwnEdges_40 (by decide) ?_
      exact ro_zret hx hb hr (by decide) (rb_0 (by rw [hi, alf_f (by omega) (by first | (simp [c_1, c_3]; done) | (simp; omega) | (simp [c_1, c_3]; omega))])) dX2_liesInsideOrOnOwnEdges_41 hlocks
    · skip
      have c_3 : ¬ ((tbe v.1 t n (x : Int) (y : Int)) < 0) := fun hq9 => c_3 ((z0_lt (by assumption)).mpr hq9)
      refine lv_iload hx hb dX2_liesInsideOrOnOwnEdges_25 (lv_at hl 0 rfl) ?_
      refine lv_if_ne (tgt := 42) hx hb dX2_liesInsideOrOnOwnEdges_27 (by decide) (fun c_4 => ?_) (fun c_4 => ?_)
      · skip
        have c_4 : ¬ ((tbe v.1 t n (x : Int) (y : Int)) = 0) := fun hq9 => c_4 ((z0_eq (by assumption)).mpr hq9)
        refine lv_iinc (v := nI (n + 1)) (lv' := [(4, .int (nI (n + 1))), (5, .int (iI (tbe v.1 t n (x : Int) (y : Int)))), (0, .ref (a 0)), (1, .int (nI (t))), (2, .int (nI (x))), (3, .int (nI (y)))]) hx hb dX2_liesInsideOrOnOwnEdges_42 hl (k := 5) rfl (nI_1 (n)) (by decide) rfl (fun ls hl => ?_)
        refine lv_goto (tgt := 3) hx hb dX2_liesInsideOrOnOwnEdges_45 (by decide) ?_
        exact ih_k (k - 1) (n + 1) ls (by omega) ⟨by omega, hi.trans (alf_t (by omega) (by first | (simp [c_1, c_3, c_4]; done) | (simp; omega) | (simp [c_1, c_3, c_4]; omega)))⟩ (lv_sub hl [2, 3, 4, 5, 0] rfl)
      · skip
        have c_4 : (tbe v.1 t n (x : Int) (y : Int)) = 0 := (z0_eq (by assumption)).mp c_4
        refine lv_aload_n hx hb dX2_liesInsideOrOnOwnEdges_30 rfl (lv_at hl 1 rfl) ?_
        refine lv_iload_n hx hb dX2_liesInsideOrOnOwnEdges_31 rfl (lv_at hl 2 rfl) ?_
        refine lv_iload hx hb dX2_liesInsideOrOnOwnEdges_32 (lv_at hl 5 rfl) ?_
        refine ro_V (As := [.int (nI (t)), .int (nI (n))]) (rest := []) (q0 := 0) (ci := 2) hx hb hml hown hts (c_X2_ownsEdge l dC dI cI cL cZ a v t n hv (by omega) (by omega)) (cwV 2 hts gX2_liesInsideOrOnOwnEdges_X2_ownsEdge rfl rfl rfl (by decide +kernel) ⟨Nat.le_of_ble_eq_true rfl, Nat.le_of_ble_eq_true rfl⟩) hK hP rfl rfl rfl hl.1 rfl (Nat.le_of_ble_eq_true rfl) dX2_liesInsideOrOnOwnEdges_34 ⟨Nat.zero_le _, Nat.zero_le _⟩ ?_
        refine lv_if_ne (tgt := 42) hx hb dX2_liesInsideOrOnOwnEdges_37 (by decide) (fun c_5 => ?_) (fun c_5 => ?_)
        · skip
          have c_5 : (own v.1 t n) = true := bI_t c_5
          refine lv_iinc (v := nI (n + 1)) (lv' := [(4, .int (nI (n + 1))), (5, .int (iI (tbe v.1 t n (x : Int) (y : Int)))), (0, .ref (a 0)), (1, .int (nI (t))), (2, .int (nI (x))), (3, .int (nI (y)))]) hx hb dX2_liesInsideOrOnOwnEdges_42 hl (k := 5) rfl (nI_1 (n)) (by decide) rfl (fun ls hl => ?_)
          refine lv_goto (tgt := 3) hx hb dX2_liesInsideOrOnOwnEdges_45 (by decide) ?_
          exact ih_k (k - 1) (n + 1) ls (by omega) ⟨by omega, hi.trans (alf_t (by omega) (by first | (simp [c_1, c_3, c_4, c_5]; done) | (simp; omega) | (simp [c_1, c_3, c_4, c_5]; omega)))⟩ (lv_sub hl [2, 3, 4, 5, 0] rfl)
        · skip
          have c_5 : (own v.1 t n) = false := bI_f c_5
          refine lv_iconst (v := nI (0)) hx hb dX2_liesInsideOrOnOwnEdges_40 (by decide) ?_
          exact ro_zret hx hb hr (by decide) (rb_0 (by rw [hi, alf_f (by omega) (by first | (simp [c_1, c_3, c_4, c_5]; done) | (simp; omega) | (simp [c_1, c_3, c_4, c_5]; omega))])) dX2_liesInsideOrOnOwnEdges_41 hlocks
set_option maxHeartbeats 4000000 in
set_option maxRecDepth 100000 in
theorem c_X2_coversPixel (l : Launch) (dC : Nat → ClassId) (dI : Nat → Nat → Nat) (cI cL cZ : ClassId) (a : Nat → Nat) (v : SV) (t i j : Nat) (hv : okS v) (ht : t < 200) (hi : i < 32) (hj : j < 32) : Met l yX2_coversPixel wsX2_coversPixel ({ frames := 4, cells := 0, slots := 0, locals := 89 }) (va_Pc [.ref (a 0), .int (nI (t)), .int (nI (i)), .int (nI (j))] (ro_B (dC, dI) vwCl (wS cI cL a v) (tyS cI cL cZ))) (k2_QcV (.int (bI (cov v.1 t i j)))) 0 0 (fun _ => False) := by
  refine ro_Met (cc := cX2_coversPixel) (maxL := 4) (ret := (some .boolean)) (by decide) rfl (Nat.le_of_ble_eq_true rfl) ?_
  intro pr en s m below meth co ls hx hb hml hr hlocks hown hts hP hK hl
  have hl : lv_has ls 4 [(0, .ref (a 0)), (1, .int (nI (t))), (2, .int (nI (i))), (3, .int (nI (j)))] := hl
  have hown : s.vm.findClass RX2 = some m.cls := hown
  have hvp : sPn v ≤ 60 ∧ sTn v ≤ 60 ∧ sTm v ≤ 200 := ⟨hv.2.1, hv.2.2.2.1, hv.2.2.2.2.1⟩
  refine lv_aload_n hx hb dX2_coversPixel_0 rfl (lv_at hl 0 rfl) ?_
  refine lv_iload_n hx hb dX2_coversPixel_1 rfl (lv_at hl 1 rfl) ?_
  refine ro_V (As := [.int (nI (t))]) (rest := []) (q0 := 0) (ci := 2) hx hb hml hown hts (c_X2_isRight l dC dI cI cL cZ a v t hv (by omega)) (cwV 1 hts gX2_coversPixel_X2_isRight rfl rfl rfl (by decide +kernel) ⟨Nat.le_of_ble_eq_true rfl, Nat.le_of_ble_eq_true rfl⟩) hK hP rfl rfl rfl hl.1 rfl (Nat.le_of_ble_eq_true rfl) dX2_coversPixel_2 ⟨Nat.zero_le _, Nat.zero_le _⟩ ?_
  refine lv_if_eq (tgt := 28) hx hb dX2_coversPixel_5 (by decide) (fun c_1 => ?_) (fun c_1 => ?_)
  · skip
    have c_1 : (rgt v.1 t) = false := bI_f c_1
    refine lv_iconst (v := nI (0)) hx hb dX2_coversPixel_28 (by decide) ?_
    exact ro_zret hx hb hr (by decide) (rb_0 (by simp [cov, c_1])) dX2_coversPixel_29 hlocks
  · skip
    have c_1 : (rgt v.1 t) = true := bI_t c_1
    refine lv_aload_n hx hb dX2_coversPixel_8 rfl (lv_at hl 0 rfl) ?_
    refine lv_iload_n hx hb dX2_coversPixel_9 rfl (lv_at hl 1 rfl) ?_
    refine lv_iload_n hx hb dX2_coversPixel_10 rfl (lv_at hl 2 rfl) ?_
    refine ro_S (As := [.int (nI (i))]) (rest := [.int (nI (t)), .ref (a 0)]) hx hb hml hown hts (c_X2_sampleOf l dC dI  i ) (va_cwS 1 hts gX2_coversPixel_X2_sampleOf rfl rfl rfl (by decide +kernel) ⟨Nat.le_of_ble_eq_true rfl, Nat.le_of_ble_eq_true rfl⟩) (hK.sub [] rfl) (hP.sub [] rfl) rfl hl.1 rfl (Nat.le_of_ble_eq_true rfl) dX2_coversPixel_11 ⟨Nat.zero_le _, Nat.zero_le _⟩ ?_
    refine lv_iload_n hx hb dX2_coversPixel_14 rfl (lv_at hl 3 rfl) ?_
    refine ro_S (As := [.int (nI (j))]) (rest := [.int (nI (16 * i + 8)), .int (nI (t)), .ref (a 0)]) hx hb hml hown hts (c_X2_sampleOf l dC dI  j ) (va_cwS 1 hts gX2_coversPixel_X2_sampleOf rfl rfl rfl (by decide +kernel) ⟨Nat.le_of_ble_eq_true rfl, Nat.le_of_ble_eq_true rfl⟩) (hK.sub [] rfl) (hP.sub [] rfl) rfl hl.1 rfl (Nat.le_of_ble_eq_true rfl) dX2_coversPixel_15 ⟨Nat.zero_le _, Nat.zero_le _⟩ ?_
    refine ro_V (As := [.int (nI (t)), .int (nI (16 * i + 8)), .int (nI (16 * j + 8))]) (rest := []) (q0 := 0) (ci := 2) hx hb hml hown hts (c_X2_liesInsideOrOnOwnEdges l dC dI cI cL cZ a v t (16 * i + 8) (16 * j + 8) hv (by omega) (by omega) (by omega)) (cwV 3 hts gX2_coversPixel_X2_liesInsideOrOnOwnEdges rfl rfl rfl (by decide +kernel) ⟨Nat.le_of_ble_eq_true rfl, Nat.le_of_ble_eq_true rfl⟩) hK hP rfl rfl rfl hl.1 rfl (Nat.le_of_ble_eq_true rfl) dX2_coversPixel_18 ⟨Nat.zero_le _, Nat.zero_le _⟩ ?_
    refine lv_if_eq (tgt := 28) hx hb dX2_coversPixel_21 (by decide) (fun c_2 => ?_) (fun c_2 => ?_)
    · skip
      have c_2 : (lie v.1 t ((16 * i + 8) : Int) ((16 * j + 8) : Int)) = false := bI_f c_2
      refine lv_iconst (v := nI (0)) hx hb dX2_coversPixel_28 (by decide) ?_
      exact ro_zret hx hb hr (by decide) (rb_0 (by simp [cov, c_1, c_2])) dX2_coversPixel_29 hlocks
    · skip
      have c_2 : (lie v.1 t ((16 * i + 8) : Int) ((16 * j + 8) : Int)) = true := bI_t c_2
      refine lv_iconst (v := nI (1)) hx hb dX2_coversPixel_24 (by decide) ?_
      refine lv_goto (tgt := 29) hx hb dX2_coversPixel_25 (by decide) ?_
      exact ro_zret hx hb hr (by decide) (rb_1 (by simp [cov, c_1, c_2])) dX2_coversPixel_29 hlocks
set_option maxHeartbeats 4000000 in
set_option maxRecDepth 100000 in
theorem c_X2_cornerX (l : Launch) (dC : Nat → ClassId) (dI : Nat → Nat → Nat) (cI cL cZ : ClassId) (a : Nat → Nat) (v : SV) (t j : Nat) (hv : okS v) (ht : t < 200) (hj : j < 4) : Met l yX2_cornerX wsX2_cornerX ({ frames := 1, cells := 0, slots := 0, locals := 22 }) (va_Pc [.ref (a 0), .int (nI (t)), .int (nI (j))] (ro_B (dC, dI) vwCl (wS cI cL a v) (tyS cI cL cZ))) (k2_QcV (.int (nI (v.1.1 (gc v.1 t j))))) 0 0 (fun _ => False) := by
  refine ro_Met (cc := cX2_cornerX) (maxL := 3) (ret := (some .int)) (by decide) rfl (Nat.le_of_ble_eq_true rfl) ?_
  intro pr en s m below meth co ls hx hb hml hr hlocks hown hts hP hK hl
  have hl : lv_has ls 3 [(0, .ref (a 0)), (1, .int (nI (t))), (2, .int (nI (j)))] := hl
  have hown : s.vm.findClass RX2 = some m.cls := hown
  have hvp : sPn v ≤ 60 ∧ sTn v ≤ 60 ∧ sTm v ≤ 200 := ⟨hv.2.1, hv.2.2.2.1, hv.2.2.2.2.1⟩
  have hg0 := gc_lt hv.1 (t := t) (k := j)
  have hg1 := gc_lt hv.1 (t := t) (k := j + 1)
  refine lv_aload_n hx hb dX2_cornerX_0 rfl (lv_at hl 0 rfl) ?_
  refine va_get (D := (dC, dI)) (ci := 2) (v := .ref (a 1)) (C := RX2) (T := TX2) (N := 6) hx hb hts (by decide +kernel) hown hK hP 0 rfl rfl 0 (by decide) (hts (.fieldLink RX2 10 "TriangleSheet" "points" "LTriangleSheet$Points;") (by decide +kernel)) (fun _ h9 => h9) rfl dX2_cornerX_1 ?_
  refine lv_aload_n hx hb dX2_cornerX_4 rfl (lv_at hl 0 rfl) ?_
  refine va_get (D := (dC, dI)) (ci := 2) (v := .ref (a 4)) (C := RX2) (T := TX2) (N := 6) hx hb hts (by decide +kernel) hown hK hP 0 rfl rfl 1 (by decide) (hts (.fieldLink RX2 19 "TriangleSheet" "triangles" "LTriangleSheet$Triangles;") (by decide +kernel)) (fun _ h9 => h9) rfl dX2_cornerX_5 ?_
  refine lv_iload_n hx hb dX2_cornerX_8 rfl (lv_at hl 1 rfl) ?_
  refine lv_iload_n hx hb dX2_cornerX_9 rfl (lv_at hl 2 rfl) ?_
  refine ro_V (As := [.int (nI (t)), .int (nI (j))]) (rest := [.ref (a 1)]) (q0 := 4) (ci := 1) hx hb hml hown hts (c_X1_cornerOf l dC dI cI cL cZ a v t j (by omega) (by omega)) (cwV 2 hts gX2_cornerX_X1_cornerOf rfl rfl rfl (by decide +kernel) ⟨Nat.le_of_ble_eq_true rfl, Nat.le_of_ble_eq_true rfl⟩) hK hP rfl rfl rfl hl.1 rfl (Nat.le_of_ble_eq_true rfl) dX2_cornerX_10 ⟨Nat.zero_le _, Nat.zero_le _⟩ ?_
  refine ro_V (As := [.int (nI (gc v.1 t j))]) (rest := []) (q0 := 1) (ci := 0) hx hb hml hown hts (c_X0_x l dC dI cI cL cZ a v (gc v.1 t j) (by omega)) (cwV 1 hts gX2_cornerX_X0_x rfl rfl rfl (by decide +kernel) ⟨Nat.le_of_ble_eq_true rfl, Nat.le_of_ble_eq_true rfl⟩) hK hP rfl rfl rfl hl.1 rfl (Nat.le_of_ble_eq_true rfl) dX2_cornerX_13 ⟨Nat.zero_le _, Nat.zero_le _⟩ ?_
  exact ro_iret hx hb hr rfl dX2_cornerX_16 hlocks
set_option maxHeartbeats 4000000 in
set_option maxRecDepth 100000 in
theorem c_X2_cornerY (l : Launch) (dC : Nat → ClassId) (dI : Nat → Nat → Nat) (cI cL cZ : ClassId) (a : Nat → Nat) (v : SV) (t j : Nat) (hv : okS v) (ht : t < 200) (hj : j < 4) : Met l yX2_cornerY wsX2_cornerY ({ frames := 1, cells := 0, slots := 0, locals := 22 }) (va_Pc [.ref (a 0), .int (nI (t)), .int (nI (j))] (ro_B (dC, dI) vwCl (wS cI cL a v) (tyS cI cL cZ))) (k2_QcV (.int (nI (v.1.2.1 (gc v.1 t j))))) 0 0 (fun _ => False) := by
  refine ro_Met (cc := cX2_cornerY) (maxL := 3) (ret := (some .int)) (by decide) rfl (Nat.le_of_ble_eq_true rfl) ?_
  intro pr en s m below meth co ls hx hb hml hr hlocks hown hts hP hK hl
  have hl : lv_has ls 3 [(0, .ref (a 0)), (1, .int (nI (t))), (2, .int (nI (j)))] := hl
  have hown : s.vm.findClass RX2 = some m.cls := hown
  have hvp : sPn v ≤ 60 ∧ sTn v ≤ 60 ∧ sTm v ≤ 200 := ⟨hv.2.1, hv.2.2.2.1, hv.2.2.2.2.1⟩
  have hg0 := gc_lt hv.1 (t := t) (k := j)
  have hg1 := gc_lt hv.1 (t := t) (k := j + 1)
  refine lv_aload_n hx hb dX2_cornerY_0 rfl (lv_at hl 0 rfl) ?_
  refine va_get (D := (dC, dI)) (ci := 2) (v := .ref (a 1)) (C := RX2) (T := TX2) (N := 6) hx hb hts (by decide +kernel) hown hK hP 0 rfl rfl 0 (by decide) (hts (.fieldLink RX2 10 "TriangleSheet" "points" "LTriangleSheet$Points;") (by decide +kernel)) (fun _ h9 => h9) rfl dX2_cornerY_1 ?_
  refine lv_aload_n hx hb dX2_cornerY_4 rfl (lv_at hl 0 rfl) ?_
  refine va_get (D := (dC, dI)) (ci := 2) (v := .ref (a 4)) (C := RX2) (T := TX2) (N := 6) hx hb hts (by decide +kernel) hown hK hP 0 rfl rfl 1 (by decide) (hts (.fieldLink RX2 19 "TriangleSheet" "triangles" "LTriangleSheet$Triangles;") (by decide +kernel)) (fun _ h9 => h9) rfl dX2_cornerY_5 ?_
  refine lv_iload_n hx hb dX2_cornerY_8 rfl (lv_at hl 1 rfl) ?_
  refine lv_iload_n hx hb dX2_cornerY_9 rfl (lv_at hl 2 rfl) ?_
  refine ro_V (As := [.int (nI (t)), .int (nI (j))]) (rest := [.ref (a 1)]) (q0 := 4) (ci := 1) hx hb hml hown hts (c_X1_cornerOf l dC dI cI cL cZ a v t j (by omega) (by omega)) (cwV 2 hts gX2_cornerY_X1_cornerOf rfl rfl rfl (by decide +kernel) ⟨Nat.le_of_ble_eq_true rfl, Nat.le_of_ble_eq_true rfl⟩) hK hP rfl rfl rfl hl.1 rfl (Nat.le_of_ble_eq_true rfl) dX2_cornerY_10 ⟨Nat.zero_le _, Nat.zero_le _⟩ ?_
  refine ro_V (As := [.int (nI (gc v.1 t j))]) (rest := []) (q0 := 1) (ci := 0) hx hb hml hown hts (c_X0_y l dC dI cI cL cZ a v (gc v.1 t j) (by omega)) (cwV 1 hts gX2_cornerY_X0_y rfl rfl rfl (by decide +kernel) ⟨Nat.le_of_ble_eq_true rfl, Nat.le_of_ble_eq_true rfl⟩) hK hP rfl rfl rfl hl.1 rfl (Nat.le_of_ble_eq_true rfl) dX2_cornerY_13 ⟨Nat.zero_le _, Nat.zero_le _⟩ ?_
  exact ro_iret hx hb hr rfl dX2_cornerY_16 hlocks
set_option maxHeartbeats 4000000 in
set_option maxRecDepth 100000 in
theorem c_X2_leftmost (l : Launch) (dC : Nat → ClassId) (dI : Nat → Nat → Nat) (cI cL cZ : ClassId) (a : Nat → Nat) (v : SV) (t : Nat) (hv : okS v) (ht : t < 200) : Met l yX2_leftmost wsX2_leftmost ({ frames := 2, cells := 0, slots := 0, locals := 44 }) (va_Pc [.ref (a 0), .int (nI (t))] (ro_B (dC, dI) vwCl (wS cI cL a v) (tyS cI cL cZ))) (k2_QcV (.int (nI (lef v.1 t)))) 0 0 (fun _ => False) := by
  refine ro_Met (cc := cX2_leftmost) (maxL := 2) (ret := (some .int)) (by decide) rfl (Nat.le_of_ble_eq_true rfl) ?_
  intro pr en s m below meth co ls hx hb hml hr hlocks hown hts hP hK hl
  have hl : lv_has ls 2 [(0, .ref (a 0)), (1, .int (nI (t)))] := hl
  have hown : s.vm.findClass RX2 = some m.cls := hown
  have hvp : sPn v ≤ 60 ∧ sTn v ≤ 60 ∧ sTm v ≤ 200 := ⟨hv.2.1, hv.2.2.2.1, hv.2.2.2.2.1⟩
  have hq0 := hv.1.1 (gc v.1 t 0)
  have hq1 := hv.1.1 (gc v.1 t 1)
  have hq2 := hv.1.1 (gc v.1 t 2)
  refine lv_aload_n hx hb dX2_leftmost_0 rfl (lv_at hl 0 rfl) ?_
  refine lv_iload_n hx hb dX2_leftmost_1 rfl (lv_at hl 1 rfl) ?_
  refine lv_iconst (v := nI (0)) hx hb dX2_leftmost_2 (by decide) ?_
  refine ro_V (As := [.int (nI (t)), .int (nI (0))]) (rest := []) (q0 := 0) (ci := 2) hx hb hml hown hts (c_X2_cornerX l dC dI cI cL cZ a v t 0 hv (by omega) (by omega)) (cwV 2 hts gX2_leftmost_X2_cornerX rfl rfl rfl (by decide +kernel) ⟨Nat.le_of_ble_eq_true rfl, Nat.le_of_ble_eq_true rfl⟩) hK hP rfl rfl rfl hl.1 rfl (Nat.le_of_ble_eq_true rfl) dX2_leftmost_3 ⟨Nat.zero_le _, Nat.zero_le _⟩ ?_
  refine lv_aload_n hx hb dX2_leftmost_6 rfl (lv_at hl 0 rfl) ?_
  refine lv_iload_n hx hb dX2_leftmost_7 rfl (lv_at hl 1 rfl) ?_
  refine lv_iconst (v := nI (1)) hx hb dX2_leftmost_8 (by decide) ?_
  refine ro_V (As := [.int (nI (t)), .int (nI (1))]) (rest := [.int (nI (v.1.1 (gc v.1 t 0)))]) (q0 := 0) (ci := 2) hx hb hml hown hts (c_X2_cornerX l dC dI cI cL cZ a v t 1 hv (by omega) (by omega)) (cwV 2 hts gX2_leftmost_X2_cornerX rfl rfl rfl (by decide +kernel) ⟨Nat.le_of_ble_eq_true rfl, Nat.le_of_ble_eq_true rfl⟩) hK hP rfl rfl rfl hl.1 rfl (Nat.le_of_ble_eq_true rfl) dX2_leftmost_9 ⟨Nat.zero_le _, Nat.zero_le _⟩ ?_
  refine lv_aload_n hx hb dX2_leftmost_12 rfl (lv_at hl 0 rfl) ?_
  refine lv_iload_n hx hb dX2_leftmost_13 rfl (lv_at hl 1 rfl) ?_
  refine lv_iconst (v := nI (2)) hx hb dX2_leftmost_14 (by decide) ?_
  refine ro_V (As := [.int (nI (t)), .int (nI (2))]) (rest := [.int (nI (v.1.1 (gc v.1 t 1))), .int (nI (v.1.1 (gc v.1 t 0)))]) (q0 := 0) (ci := 2) hx hb hml hown hts (c_X2_cornerX l dC dI cI cL cZ a v t 2 hv (by omega) (by omega)) (cwV 2 hts gX2_leftmost_X2_cornerX rfl rfl rfl (by decide +kernel) ⟨Nat.le_of_ble_eq_true rfl, Nat.le_of_ble_eq_true rfl⟩) hK hP rfl rfl rfl hl.1 rfl (Nat.le_of_ble_eq_true rfl) dX2_leftmost_15 ⟨Nat.zero_le _, Nat.zero_le _⟩ ?_
  refine va_mmin hx hb (hml.trans hl.1.symm) hown (hts (.methodLink RX2 247 Lib.Math.min.name) (by decide +kernel)) (hts (.static Lib.Math.min.name) (by decide +kernel)) (hts (.initialized "java/lang/Math") (by decide +kernel)) (hts (.code Lib.Math.min.name Lib.Math.min.code 2 (some .int)) (by decide +kernel)) (Nat.le_of_ble_eq_true rfl) (Nat.le_of_ble_eq_true rfl) (Nat.zero_le _) (Nat.zero_le _) dX2_leftmost_18 ?_
  refine rt_i (y := (nI (min (v.1.1 (gc v.1 t 1)) (v.1.1 (gc v.1 t 2))))) (mmin_n (by omega) (by omega)) ?_
  refine va_mmin hx hb (hml.trans hl.1.symm) hown (hts (.methodLink RX2 247 Lib.Math.min.name) (by decide +kernel)) (hts (.static Lib.Math.min.name) (by decide +kernel)) (hts (.initialized "java/lang/Math") (by decide +kernel)) (hts (.code Lib.Math.min.name Lib.Math.min.code 2 (some .int)) (by decide +kernel)) (Nat.le_of_ble_eq_true rfl) (Nat.le_of_ble_eq_true rfl) (Nat.zero_le _) (Nat.zero_le _) dX2_leftmost_21 ?_
  refine rt_i (y := (nI (min (v.1.1 (gc v.1 t 0)) (min (v.1.1 (gc v.1 t 1)) (v.1.1 (gc v.1 t 2)))))) (mmin_n (by omega) (by omega)) ?_
  exact ro_iret hx hb hr rfl dX2_leftmost_24 hlocks
set_option maxHeartbeats 4000000 in
set_option maxRecDepth 100000 in
theorem c_X2_rightmost (l : Launch) (dC : Nat → ClassId) (dI : Nat → Nat → Nat) (cI cL cZ : ClassId) (a : Nat → Nat) (v : SV) (t : Nat) (hv : okS v) (ht : t < 200) : Met l yX2_rightmost wsX2_rightmost ({ frames := 2, cells := 0, slots := 0, locals := 44 }) (va_Pc [.ref (a 0), .int (nI (t))] (ro_B (dC, dI) vwCl (wS cI cL a v) (tyS cI cL cZ))) (k2_QcV (.int (nI (rig v.1 t)))) 0 0 (fun _ => False) := by
  refine ro_Met (cc := cX2_rightmost) (maxL := 2) (ret := (some .int)) (by decide) rfl (Nat.le_of_ble_eq_true rfl) ?_
  intro pr en s m below meth co ls hx hb hml hr hlocks hown hts hP hK hl
  have hl : lv_has ls 2 [(0, .ref (a 0)), (1, .int (nI (t)))] := hl
  have hown : s.vm.findClass RX2 = some m.cls := hown
  have hvp : sPn v ≤ 60 ∧ sTn v ≤ 60 ∧ sTm v ≤ 200 := ⟨hv.2.1, hv.2.2.2.1, hv.2.2.2.2.1⟩
  have hq0 := hv.1.1 (gc v.1 t 0)
  have hq1 := hv.1.1 (gc v.1 t 1)
  have hq2 := hv.1.1 (gc v.1 t 2)
  refine lv_aload_n hx hb dX2_rightmost_0 rfl (lv_at hl 0 rfl) ?_
  refine lv_iload_n hx hb dX2_rightmost_1 rfl (lv_at hl 1 rfl) ?_
  refine lv_iconst (v := nI (0)) hx hb dX2_rightmost_2 (by decide) ?_
  refine ro_V (As := [.int (nI (t)), .int (nI (0))]) (rest := []) (q0 := 0) (ci := 2) hx hb hml hown hts (c_X2_cornerX l dC dI cI cL cZ a v t 0 hv (by omega) (by omega)) (cwV 2 hts gX2_rightmost_X2_cornerX rfl rfl rfl (by decide +kernel) ⟨Nat.le_of_ble_eq_true rfl, Nat.le_of_ble_eq_true rfl⟩) hK hP rfl rfl rfl hl.1 rfl (Nat.le_of_ble_eq_true rfl) dX2_rightmost_3 ⟨Nat.zero_le _, Nat.zero_le _⟩ ?_
  refine lv_aload_n hx hb dX2_rightmost_6 rfl (lv_at hl 0 rfl) ?_
  refine lv_iload_n hx hb dX2_rightmost_7 rfl (lv_at hl 1 rfl) ?_
  refine lv_iconst (v := nI (1)) hx hb dX2_rightmost_8 (by decide) ?_
  refine ro_V (As := [.int (nI (t)), .int (nI (1))]) (rest := [.int (nI (v.1.1 (gc v.1 t 0)))]) (q0 := 0) (ci := 2) hx hb hml hown hts (c_X2_cornerX l dC dI cI cL cZ a v t 1 hv (by omega) (by omega)) (cwV 2 hts gX2_rightmost_X2_cornerX rfl rfl rfl (by decide +kernel) ⟨Nat.le_of_ble_eq_true rfl, Nat.le_of_ble_eq_true rfl⟩) hK hP rfl rfl rfl hl.1 rfl (Nat.le_of_ble_eq_true rfl) dX2_rightmost_9 ⟨Nat.zero_le _, Nat.zero_le _⟩ ?_
  refine lv_aload_n hx hb dX2_rightmost_12 rfl (lv_at hl 0 rfl) ?_
  refine lv_iload_n hx hb dX2_rightmost_13 rfl (lv_at hl 1 rfl) ?_
  refine lv_iconst (v := nI (2)) hx hb dX2_rightmost_14 (by decide) ?_
  refine ro_V (As := [.int (nI (t)), .int (nI (2))]) (rest := [.int (nI (v.1.1 (gc v.1 t 1))), .int (nI (v.1.1 (gc v.1 t 0)))]) (q0 := 0) (ci := 2) hx hb hml hown hts (c_X2_cornerX l dC dI cI cL cZ a v t 2 hv (by omega) (by omega)) (cwV 2 hts gX2_rightmost_X2_cornerX rfl rfl rfl (by decide +kernel) ⟨Nat.le_of_ble_eq_true rfl, Nat.le_of_ble_eq_true rfl⟩) hK hP rfl rfl rfl hl.1 rfl (Nat.le_of_ble_eq_true rfl) dX2_rightmost_15 ⟨Nat.zero_le _, Nat.zero_le _⟩ ?_
  refine va_mmax hx hb (hml.trans hl.1.symm) hown (hts (.methodLink RX2 239 Lib.Math.max.name) (by decide +kernel)) (hts (.static Lib.Math.max.name) (by decide +kernel)) (hts (.initialized "java/lang/Math") (by decide +kernel)) (hts (.code Lib.Math.max.name Lib.Math.max.code 2 (some .int)) (by decide +kernel)) (Nat.le_of_ble_eq_true rfl) (Nat.le_of_ble_eq_true rfl) (Nat.zero_le _) (Nat.zero_le _) dX2_rightmost_18 ?_
  refine rt_i (y := (nI (max (v.1.1 (gc v.1 t 1)) (v.1.1 (gc v.1 t 2))))) (mmax_n (by omega) (by omega)) ?_
  refine va_mmax hx hb (hml.trans hl.1.symm) hown (hts (.methodLink RX2 239 Lib.Math.max.name) (by decide +kernel)) (hts (.static Lib.Math.max.name) (by decide +kernel)) (hts (.initialized "java/lang/Math") (by decide +kernel)) (hts (.code Lib.Math.max.name Lib.Math.max.code 2 (some .int)) (by decide +kernel)) (Nat.le_of_ble_eq_true rfl) (Nat.le_of_ble_eq_true rfl) (Nat.zero_le _) (Nat.zero_le _) dX2_rightmost_21 ?_
  refine rt_i (y := (nI (max (v.1.1 (gc v.1 t 0)) (max (v.1.1 (gc v.1 t 1)) (v.1.1 (gc v.1 t 2)))))) (mmax_n (by omega) (by omega)) ?_
  exact ro_iret hx hb hr rfl dX2_rightmost_24 hlocks
set_option maxHeartbeats 4000000 in
set_option maxRecDepth 100000 in
theorem c_X2_lowest (l : Launch) (dC : Nat → ClassId) (dI : Nat → Nat → Nat) (cI cL cZ : ClassId) (a : Nat → Nat) (v : SV) (t : Nat) (hv : okS v) (ht : t < 200) : Met l yX2_lowest wsX2_lowest ({ frames := 2, cells := 0, slots := 0, locals := 44 }) (va_Pc [.ref (a 0), .int (nI (t))] (ro_B (dC, dI) vwCl (wS cI cL a v) (tyS cI cL cZ))) (k2_QcV (.int (nI (low v.1 t)))) 0 0 (fun _ => False) := by
  refine ro_Met (cc := cX2_lowest) (maxL := 2) (ret := (some .int)) (by decide) rfl (Nat.le_of_ble_eq_true rfl) ?_
  intro pr en s m below meth co ls hx hb hml hr hlocks hown hts hP hK hl
  have hl : lv_has ls 2 [(0, .ref (a 0)), (1, .int (nI (t)))] := hl
  have hown : s.vm.findClass RX2 = some m.cls := hown
  have hvp : sPn v ≤ 60 ∧ sTn v ≤ 60 ∧ sTm v ≤ 200 := ⟨hv.2.1, hv.2.2.2.1, hv.2.2.2.2.1⟩
  have hq0 := hv.1.2.1 (gc v.1 t 0)
  have hq1 := hv.1.2.1 (gc v.1 t 1)
  have hq2 := hv.1.2.1 (gc v.1 t 2)
  refine lv_aload_n hx hb dX2_lowest_0 rfl (lv_at hl 0 rfl) ?_
  refine lv_iload_n hx hb dX2_lowest_1 rfl (lv_at hl 1 rfl) ?_
  refine lv_iconst (v := nI (0)) hx hb dX2_lowest_2 (by decide) ?_
  refine ro_V (As := [.int (nI (t)), .int (nI (0))]) (rest := []) (q0 := 0) (ci := 2) hx hb hml hown hts (c_X2_cornerY l dC dI cI cL cZ a v t 0 hv (by omega) (by omega)) (cwV 2 hts gX2_lowest_X2_cornerY rfl rfl rfl (by decide +kernel) ⟨Nat.le_of_ble_eq_true rfl, Nat.le_of_ble_eq_true rfl⟩) hK hP rfl rfl rfl hl.1 rfl (Nat.le_of_ble_eq_true rfl) dX2_lowest_3 ⟨Nat.zero_le _, Nat.zero_le _⟩ ?_
  refine lv_aload_n hx hb dX2_lowest_6 rfl (lv_at hl 0 rfl) ?_
  refine lv_iload_n hx hb dX2_lowest_7 rfl (lv_at hl 1 rfl) ?_
  refine lv_iconst (v := nI (1)) hx hb dX2_lowest_8 (by decide) ?_
  refine ro_V (As := [.int (nI (t)), .int (nI (1))]) (rest := [.int (nI (v.1.2.1 (gc v.1 t 0)))]) (q0 := 0) (ci := 2) hx hb hml hown hts (c_X2_cornerY l dC dI cI cL cZ a v t 1 hv (by omega) (by omega)) (cwV 2 hts gX2_lowest_X2_cornerY rfl rfl rfl (by decide +kernel) ⟨Nat.le_of_ble_eq_true rfl, Nat.le_of_ble_eq_true rfl⟩) hK hP rfl rfl rfl hl.1 rfl (Nat.le_of_ble_eq_true rfl) dX2_lowest_9 ⟨Nat.zero_le _, Nat.zero_le _⟩ ?_
  refine lv_aload_n hx hb dX2_lowest_12 rfl (lv_at hl 0 rfl) ?_
  refine lv_iload_n hx hb dX2_lowest_13 rfl (lv_at hl 1 rfl) ?_
  refine lv_iconst (v := nI (2)) hx hb dX2_lowest_14 (by decide) ?_
  refine ro_V (As := [.int (nI (t)), .int (nI (2))]) (rest := [.int (nI (v.1.2.1 (gc v.1 t 1))), .int (nI (v.1.2.1 (gc v.1 t 0)))]) (q0 := 0) (ci := 2) hx hb hml hown hts (c_X2_cornerY l dC dI cI cL cZ a v t 2 hv (by omega) (by omega)) (cwV 2 hts gX2_lowest_X2_cornerY rfl rfl rfl (by decide +kernel) ⟨Nat.le_of_ble_eq_true rfl, Nat.le_of_ble_eq_true rfl⟩) hK hP rfl rfl rfl hl.1 rfl (Nat.le_of_ble_eq_true rfl) dX2_lowest_15 ⟨Nat.zero_le _, Nat.zero_le _⟩ ?_
  refine va_mmin hx hb (hml.trans hl.1.symm) hown (hts (.methodLink RX2 247 Lib.Math.min.name) (by decide +kernel)) (hts (.static Lib.Math.min.name) (by decide +kernel)) (hts (.initialized "java/lang/Math") (by decide +kernel)) (hts (.code Lib.Math.min.name Lib.Math.min.code 2 (some .int)) (by decide +kernel)) (Nat.le_of_ble_eq_true rfl) (Nat.le_of_ble_eq_true rfl) (Nat.zero_le _) (Nat.zero_le _) dX2_lowest_18 ?_
  refine rt_i (y := (nI (min (v.1.2.1 (gc v.1 t 1)) (v.1.2.1 (gc v.1 t 2))))) (mmin_n (by omega) (by omega)) ?_
  refine va_mmin hx hb (hml.trans hl.1.symm) hown (hts (.methodLink RX2 247 Lib.Math.min.name) (by decide +kernel)) (hts (.static Lib.Math.min.name) (by decide +kernel)) (hts (.initialized "java/lang/Math") (by decide +kernel)) (hts (.code Lib.Math.min.name Lib.Math.min.code 2 (some .int)) (by decide +kernel)) (Nat.le_of_ble_eq_true rfl) (Nat.le_of_ble_eq_true rfl) (Nat.zero_le _) (Nat.zero_le _) dX2_lowest_21 ?_
  refine rt_i (y := (nI (min (v.1.2.1 (gc v.1 t 0)) (min (v.1.2.1 (gc v.1 t 1)) (v.1.2.1 (gc v.1 t 2)))))) (mmin_n (by omega) (by omega)) ?_
  exact ro_iret hx hb hr rfl dX2_lowest_24 hlocks
set_option maxHeartbeats 4000000 in
set_option maxRecDepth 100000 in
theorem c_X2_highest (l : Launch) (dC : Nat → ClassId) (dI : Nat → Nat → Nat) (cI cL cZ : ClassId) (a : Nat → Nat) (v : SV) (t : Nat) (hv : okS v) (ht : t < 200) : Met l yX2_highest wsX2_highest ({ frames := 2, cells := 0, slots := 0, locals := 44 }) (va_Pc [.ref (a 0), .int (nI (t))] (ro_B (dC, dI) vwCl (wS cI cL a v) (tyS cI cL cZ))) (k2_QcV (.int (nI (hig v.1 t)))) 0 0 (fun _ => False) := by
  refine ro_Met (cc := cX2_highest) (maxL := 2) (ret := (some .int)) (by decide) rfl (Nat.le_of_ble_eq_true rfl) ?_
  intro pr en s m below meth co ls hx hb hml hr hlocks hown hts hP hK hl
  have hl : lv_has ls 2 [(0, .ref (a 0)), (1, .int (nI (t)))] := hl
  have hown : s.vm.findClass RX2 = some m.cls := hown
  have hvp : sPn v ≤ 60 ∧ sTn v ≤ 60 ∧ sTm v ≤ 200 := ⟨hv.2.1, hv.2.2.2.1, hv.2.2.2.2.1⟩
  have hq0 := hv.1.2.1 (gc v.1 t 0)
  have hq1 := hv.1.2.1 (gc v.1 t 1)
  have hq2 := hv.1.2.1 (gc v.1 t 2)
  refine lv_aload_n hx hb dX2_highest_0 rfl (lv_at hl 0 rfl) ?_
  refine lv_iload_n hx hb dX2_highest_1 rfl (lv_at hl 1 rfl) ?_
  refine lv_iconst (v := nI (0)) hx hb dX2_highest_2 (by decide) ?_
  refine ro_V (As := [.int (nI (t)), .int (nI (0))]) (rest := []) (q0 := 0) (ci := 2) hx hb hml hown hts (c_X2_cornerY l dC dI cI cL cZ a v t 0 hv (by omega) (by omega)) (cwV 2 hts gX2_highest_X2_cornerY rfl rfl rfl (by decide +kernel) ⟨Nat.le_of_ble_eq_true rfl, Nat.le_of_ble_eq_true rfl⟩) hK hP rfl rfl rfl hl.1 rfl (Nat.le_of_ble_eq_true rfl) dX2_highest_3 ⟨Nat.zero_le _, Nat.zero_le _⟩ ?_
  refine lv_aload_n hx hb dX2_highest_6 rfl (lv_at hl 0 rfl) ?_
  refine lv_iload_n hx hb dX2_highest_7 rfl (lv_at hl 1 rfl) ?_
  refine lv_iconst (v := nI (1)) hx hb dX2_highest_8 (by decide) ?_
  refine ro_V (As := [.int (nI (t)), .int (nI (1))]) (rest := [.int (nI (v.1.2.1 (gc v.1 t 0)))]) (q0 := 0) (ci := 2) hx hb hml hown hts (c_X2_cornerY l dC dI cI cL cZ a v t 1 hv (by omega) (by omega)) (cwV 2 hts gX2_highest_X2_cornerY rfl rfl rfl (by decide +kernel) ⟨Nat.le_of_ble_eq_true rfl, Nat.le_of_ble_eq_true rfl⟩) hK hP rfl rfl rfl hl.1 rfl (Nat.le_of_ble_eq_true rfl) dX2_highest_9 ⟨Nat.zero_le _, Nat.zero_le _⟩ ?_
  refine lv_aload_n hx hb dX2_highest_12 rfl (lv_at hl 0 rfl) ?_
  refine lv_iload_n hx hb dX2_highest_13 rfl (lv_at hl 1 rfl) ?_
  refine lv_iconst (v := nI (2)) hx hb dX2_highest_14 (by decide) ?_
  refine ro_V (As := [.int (nI (t)), .int (nI (2))]) (rest := [.int (nI (v.1.2.1 (gc v.1 t 1))), .int (nI (v.1.2.1 (gc v.1 t 0)))]) (q0 := 0) (ci := 2) hx hb hml hown hts (c_X2_cornerY l dC dI cI cL cZ a v t 2 hv (by omega) (by omega)) (cwV 2 hts gX2_highest_X2_cornerY rfl rfl rfl (by decide +kernel) ⟨Nat.le_of_ble_eq_true rfl, Nat.le_of_ble_eq_true rfl⟩) hK hP rfl rfl rfl hl.1 rfl (Nat.le_of_ble_eq_true rfl) dX2_highest_15 ⟨Nat.zero_le _, Nat.zero_le _⟩ ?_
  refine va_mmax hx hb (hml.trans hl.1.symm) hown (hts (.methodLink RX2 239 Lib.Math.max.name) (by decide +kernel)) (hts (.static Lib.Math.max.name) (by decide +kernel)) (hts (.initialized "java/lang/Math") (by decide +kernel)) (hts (.code Lib.Math.max.name Lib.Math.max.code 2 (some .int)) (by decide +kernel)) (Nat.le_of_ble_eq_true rfl) (Nat.le_of_ble_eq_true rfl) (Nat.zero_le _) (Nat.zero_le _) dX2_highest_18 ?_
  refine rt_i (y := (nI (max (v.1.2.1 (gc v.1 t 1)) (v.1.2.1 (gc v.1 t 2))))) (mmax_n (by omega) (by omega)) ?_
  refine va_mmax hx hb (hml.trans hl.1.symm) hown (hts (.methodLink RX2 239 Lib.Math.max.name) (by decide +kernel)) (hts (.static Lib.Math.max.name) (by decide +kernel)) (hts (.initialized "java/lang/Math") (by decide +kernel)) (hts (.code Lib.Math.max.name Lib.Math.max.code 2 (some .int)) (by decide +kernel)) (Nat.le_of_ble_eq_true rfl) (Nat.le_of_ble_eq_true rfl) (Nat.zero_le _) (Nat.zero_le _) dX2_highest_21 ?_
  refine rt_i (y := (nI (max (v.1.2.1 (gc v.1 t 0)) (max (v.1.2.1 (gc v.1 t 1)) (v.1.2.1 (gc v.1 t 2)))))) (mmax_n (by omega) (by omega)) ?_
  exact ro_iret hx hb hr rfl dX2_highest_24 hlocks
set_option maxHeartbeats 4000000 in
set_option maxRecDepth 100000 in
theorem c_X2_areFarApart (l : Launch) (dC : Nat → ClassId) (dI : Nat → Nat → Nat) (cI cL cZ : ClassId) (a : Nat → Nat) (v : SV) (t u : Nat) (hv : okS v) (ht : t < 200) (hu : u < 200) : Met l yX2_areFarApart wsX2_areFarApart ({ frames := 3, cells := 0, slots := 0, locals := 65 }) (va_Pc [.ref (a 0), .int (nI (t)), .int (nI (u))] (ro_B (dC, dI) vwCl (wS cI cL a v) (tyS cI cL cZ))) (k2_QcV (.int (bI (far v.1 t u)))) 0 0 (fun _ => False) := by
  refine ro_Met (cc := cX2_areFarApart) (maxL := 3) (ret := (some .boolean)) (by decide) rfl (Nat.le_of_ble_eq_true rfl) ?_
  intro pr en s m below meth co ls hx hb hml hr hlocks hown hts hP hK hl
  have hl : lv_has ls 3 [(0, .ref (a 0)), (1, .int (nI (t))), (2, .int (nI (u)))] := hl
  have hown : s.vm.findClass RX2 = some m.cls := hown
  have hvp : sPn v ≤ 60 ∧ sTn v ≤ 60 ∧ sTm v ≤ 200 := ⟨hv.2.1, hv.2.2.2.1, hv.2.2.2.2.1⟩
  refine lv_aload_n hx hb dX2_areFarApart_0 rfl (lv_at hl 0 rfl) ?_
  refine lv_iload_n hx hb dX2_areFarApart_1 rfl (lv_at hl 1 rfl) ?_
  refine ro_V (As := [.int (nI (t))]) (rest := []) (q0 := 0) (ci := 2) hx hb hml hown hts (c_X2_rightmost l dC dI cI cL cZ a v t hv (by omega)) (cwV 1 hts gX2_areFarApart_X2_rightmost rfl rfl rfl (by decide +kernel) ⟨Nat.le_of_ble_eq_true rfl, Nat.le_of_ble_eq_true rfl⟩) hK hP rfl rfl rfl hl.1 rfl (Nat.le_of_ble_eq_true rfl) dX2_areFarApart_2 ⟨Nat.zero_le _, Nat.zero_le _⟩ ?_
  have ps_1 : rig v.1 t < 512 := rig_lt hv.1
  refine lv_aload_n hx hb dX2_areFarApart_5 rfl (lv_at hl 0 rfl) ?_
  refine lv_iload_n hx hb dX2_areFarApart_6 rfl (lv_at hl 2 rfl) ?_
  refine ro_V (As := [.int (nI (u))]) (rest := [.int (nI (rig v.1 t))]) (q0 := 0) (ci := 2) hx hb hml hown hts (c_X2_leftmost l dC dI cI cL cZ a v u hv (by omega)) (cwV 1 hts gX2_areFarApart_X2_leftmost rfl rfl rfl (by decide +kernel) ⟨Nat.le_of_ble_eq_true rfl, Nat.le_of_ble_eq_true rfl⟩) hK hP rfl rfl rfl hl.1 rfl (Nat.le_of_ble_eq_true rfl) dX2_areFarApart_7 ⟨Nat.zero_le _, Nat.zero_le _⟩ ?_
  have ps_2 : lef v.1 u < 512 := lef_lt hv.1
  refine lv_icmp_lt (tgt := 52) hx hb dX2_areFarApart_10 (by decide) (fun c_3 => ?_) (fun c_3 => ?_)
  · skip
    have c_3 : rig v.1 t < lef v.1 u := (nI_ltI (a := rig v.1 t) (b := lef v.1 u) (by omega) (by omega)).mp c_3
    refine lv_iconst (v := nI (1)) hx hb dX2_areFarApart_52 (by decide) ?_
    refine lv_goto (tgt := 57) hx hb dX2_areFarApart_53 (by decide) ?_
    exact ro_zret hx hb hr (by decide) (rb_1 (by first | (simp [far, c_3]; done) | (simp [far, c_3]; omega) | (simp [far]; omega))) dX2_areFarApart_57 hlocks
  · skip
    have c_3 : ¬ (rig v.1 t < lef v.1 u) := fun hq9 => c_3 ((nI_ltI (a := rig v.1 t) (b := lef v.1 u) (by omega) (by omega)).mpr hq9)
    refine lv_aload_n hx hb dX2_areFarApart_13 rfl (lv_at hl 0 rfl) ?_
    refine lv_iload_n hx hb dX2_areFarApart_14 rfl (lv_at hl 2 rfl) ?_
    refine ro_V (As := [.int (nI (u))]) (rest := []) (q0 := 0) (ci := 2) hx hb hml hown hts (c_X2_rightmost l dC dI cI cL cZ a v u hv (by omega)) (cwV 1 hts gX2_areFarApart_X2_rightmost rfl rfl rfl (by decide +kernel) ⟨Nat.le_of_ble_eq_true rfl, Nat.le_of_ble_eq_true rfl⟩) hK hP rfl rfl rfl hl.1 rfl (Nat.le_of_ble_eq_true rfl) dX2_areFarApart_15 ⟨Nat.zero_le _, Nat.zero_le _⟩ ?_
    have ps_4 : rig v.1 u < 512 := rig_lt hv.1
    refine lv_aload_n hx hb dX2_areFarApart_18 rfl (lv_at hl 0 rfl) ?_
    refine lv_iload_n hx hb dX2_areFarApart_19 rfl (lv_at hl 1 rfl) ?_
    refine ro_V (As := [.int (nI (t))]) (rest := [.int (nI (rig v.1 u))]) (q0 := 0) (ci := 2) hx hb hml hown hts (c_X2_leftmost l dC dI cI cL cZ a v t hv (by omega)) (cwV 1 hts gX2_areFarApart_X2_leftmost rfl rfl rfl (by decide +kernel) ⟨Nat.le_of_ble_eq_true rfl, Nat.le_of_ble_eq_true rfl⟩) hK hP rfl rfl rfl hl.1 rfl (Nat.le_of_ble_eq_true rfl) dX2_areFarApart_20 ⟨Nat.zero_le _, Nat.zero_le _⟩ ?_
    have ps_5 : lef v.1 t < 512 := lef_lt hv.1
    refine lv_icmp_lt (tgt := 52) hx hb dX2_areFarApart_23 (by decide) (fun c_6 => ?_) (fun c_6 => ?_)
    · skip
      have c_6 : rig v.1 u < lef v.1 t := (nI_ltI (a := rig v.1 u) (b := lef v.1 t) (by omega) (by omega)).mp c_6
      refine lv_iconst (v := nI (1)) hx hb dX2_areFarApart_52 (by decide) ?_
      refine lv_goto (tgt := 57) hx hb dX2_areFarApart_53 (by decide) ?_
      exact ro_zret hx hb hr (by decide) (rb_1 (by first | (simp [far, c_3, c_6]; done) | (simp [far, c_3, c_6]; omega) | (simp [far]; omega))) dX2_areFarApart_57 hlocks
    · skip
      have c_6 : ¬ (rig v.1 u < lef v.1 t) := fun hq9 => c_6 ((nI_ltI (a := rig v.1 u) (b := lef v.1 t) (by omega) (by omega)).mpr hq9)
      refine lv_aload_n hx hb dX2_areFarApart_26 rfl (lv_at hl 0 rfl) ?_
      refine lv_iload_n hx hb dX2_areFarApart_27 rfl (lv_at hl 1 rfl) ?_
      refine ro_V (As := [.int (nI (t))]) (rest := []) (q0 := 0) (ci := 2) hx hb hml hown hts (c_X2_highest l dC dI cI cL cZ a v t hv (by omega)) (cwV 1 hts gX2_areFarApart_X2_highest rfl rfl rfl (by decide +kernel) ⟨Nat.le_of_ble_eq_true rfl, Nat.le_of_ble_eq_true rfl⟩) hK hP rfl rfl rfl hl.1 rfl (Nat.le_of_ble_eq_true rfl) dX2_areFarApart_28 ⟨Nat.zero_le _, Nat.zero_le _⟩ ?_
      have ps_7 : hig v.1 t < 512 := hig_lt hv.1
      refine lv_aload_n hx hb dX2_areFarApart_31 rfl (lv_at hl 0 rfl) ?_
      refine lv_iload_n hx hb dX2_areFarApart_32 rfl (lv_at hl 2 rfl) ?_
      refine ro_V (As := [.int (nI (u))]) (rest := [.int (nI (hig v.1 t))]) (q0 := 0) (ci := 2) hx hb hml hown hts (c_X2_lowest l dC dI cI cL cZ a v u hv (by omega)) (cwV 1 hts gX2_areFarApart_X2_lowest rfl rfl rfl (by decide +kernel) ⟨Nat.le_of_ble_eq_true rfl, Nat.le_of_ble_eq_true rfl⟩) hK hP rfl rfl rfl hl.1 rfl (Nat.le_of_ble_eq_true rfl) dX2_areFarApart_33 ⟨Nat.zero_le _, Nat.zero_le _⟩ ?_
      have ps_8 : low v.1 u < 512 := low_lt hv.1
      refine lv_icmp_lt (tgt := 52) hx hb dX2_areFarApart_36 (by decide) (fun c_9 => ?_) (fun c_9 => ?_)
      · skip
        have c_9 : hig v.1 t < low v.1 u := (nI_ltI (a := hig v.1 t) (b := low v.1 u) (by omega) (by omega)).mp c_9
        refine lv_iconst (v := nI (1)) hx hb dX2_areFarApart_52 (by decide) ?_
        refine lv_goto (tgt := 57) hx hb dX2_areFarApart_53 (by decide) ?_
        exact ro_zret hx hb hr (by decide) (rb_1 (by first | (simp [far, c_3, c_6, c_9]; done) | (simp [far, c_3, c_6, c_9]; omega) | (simp [far]; omega))) dX2_areFarApart_57 hlocks
      · skip
        have c_9 : ¬ (hig v.1 t < low v.1 u) := fun hq9 => c_9 ((nI_ltI (a := hig v.1 t) (b := low v.1 u) (by omega) (by omega)).mpr hq9)
        refine lv_aload_n hx hb dX2_areFarApart_39 rfl (lv_at hl 0 rfl) ?_
        refine lv_iload_n hx hb dX2_areFarApart_40 rfl (lv_at hl 2 rfl) ?_
        refine ro_V (As := [.int (nI (u))]) (rest := []) (q0 := 0) (ci := 2) hx hb hml hown hts (c_X2_highest l dC dI cI cL cZ a v u hv (by omega)) (cwV 1 hts gX2_areFarApart_X2_highest rfl rfl rfl (by decide +kernel) ⟨Nat.le_of_ble_eq_true rfl, Nat.le_of_ble_eq_true rfl⟩) hK hP rfl rfl rfl hl.1 rfl (Nat.le_of_ble_eq_true rfl) dX2_areFarApart_41 ⟨Nat.zero_le _, Nat.zero_le _⟩ ?_
        have ps_10 : hig v.1 u < 512 := hig_lt hv.1
        refine lv_aload_n hx hb dX2_areFarApart_44 rfl (lv_at hl 0 rfl) ?_
        refine lv_iload_n hx hb dX2_areFarApart_45 rfl (lv_at hl 1 rfl) ?_
        refine ro_V (As := [.int (nI (t))]) (rest := [.int (nI (hig v.1 u))]) (q0 := 0) (ci := 2) hx hb hml hown hts (c_X2_lowest l dC dI cI cL cZ a v t hv (by omega)) (cwV 1 hts gX2_areFarApart_X2_lowest rfl rfl rfl (by decide +kernel) ⟨Nat.le_of_ble_eq_true rfl, Nat.le_of_ble_eq_true rfl⟩) hK hP rfl rfl rfl hl.1 rfl (Nat.le_of_ble_eq_true rfl) dX2_areFarApart_46 ⟨Nat.zero_le _, Nat.zero_le _⟩ ?_
        have ps_11 : low v.1 t < 512 := low_lt hv.1
        refine lv_icmp_ge (tgt := 56) hx hb dX2_areFarApart_49 (by decide) (fun c_12 => ?_) (fun c_12 => ?_)
        · skip
          have c_12 : low v.1 t ≤ hig v.1 u := (nI_leI (a := low v.1 t) (b := hig v.1 u) (by omega) (by omega)).mp c_12
          refine lv_iconst (v := nI (0)) hx hb dX2_areFarApart_56 (by decide) ?_
          exact ro_zret hx hb hr (by decide) (rb_0 (by first | (simp [far, c_3, c_6, c_9, c_12]; done) | (simp [far, c_3, c_6, c_9, c_12]; omega) | (simp [far]; omega))) dX2_areFarApart_57 hlocks
        · skip
          have c_12 : ¬ (low v.1 t ≤ hig v.1 u) := fun hq9 => c_12 ((nI_leI (a := low v.1 t) (b := hig v.1 u) (by omega) (by omega)).mpr hq9)
          refine lv_iconst (v := nI (1)) hx hb dX2_areFarApart_52 (by decide) ?_
          refine lv_goto (tgt := 57) hx hb dX2_areFarApart_53 (by decide) ?_
          exact ro_zret hx hb hr (by decide) (rb_1 (by first | (simp [far, c_3, c_6, c_9, c_12]; done) | (simp [far, c_3, c_6, c_9, c_12]; omega) | (simp [far]; omega))) dX2_areFarApart_57 hlocks
set_option maxHeartbeats 4000000 in
set_option maxRecDepth 100000 in
theorem c_X2_haveSameCorners (l : Launch) (dC : Nat → ClassId) (dI : Nat → Nat → Nat) (cI cL cZ : ClassId) (a : Nat → Nat) (v : SV) (t u : Nat) (hv : okS v) (ht : t < 200) (hu : u < 200) : Met l yX2_haveSameCorners wsX2_haveSameCorners ({ frames := 1, cells := 0, slots := 0, locals := 22 }) (va_Pc [.ref (a 0), .int (nI (t)), .int (nI (u))] (ro_B (dC, dI) vwCl (wS cI cL a v) (tyS cI cL cZ))) (k2_QcV (.int (bI (sam v.1 t u)))) 0 0 (fun _ => False) := by
  refine ro_Met (cc := cX2_haveSameCorners) (maxL := 4) (ret := (some .boolean)) (by decide) rfl (Nat.le_of_ble_eq_true rfl) ?_
  intro pr en s m below meth co ls hx hb hml hr hlocks hown hts hP hK hl
  have hl : lv_has ls 4 [(0, .ref (a 0)), (1, .int (nI (t))), (2, .int (nI (u)))] := hl
  have hown : s.vm.findClass RX2 = some m.cls := hown
  have hvp : sPn v ≤ 60 ∧ sTn v ≤ 60 ∧ sTm v ≤ 200 := ⟨hv.2.1, hv.2.2.2.1, hv.2.2.2.2.1⟩
  refine lv_iconst (v := nI (0)) hx hb dX2_haveSameCorners_0 (by decide) ?_
  refine lv_istore_n (lv' := [(3, .int (nI (0))), (0, .ref (a 0)), (1, .int (nI (t))), (2, .int (nI (u)))]) hx hb dX2_haveSameCorners_1 rfl hl (by decide) rfl (fun ls hl => ?_)
  refine lp (σ := Nat) (LV := fun n => [(0, .ref (a 0)), (1, .int (nI (t))), (2, .int (nI (u))), (3, .int (nI (n)))]) (I := fun k n => n + k = 3 ∧ sam v.1 t u = alf (fun k => hcr v.1 u (gc v.1 t k)) k n) (fun k n ls hI_k hl ih_k => ?_) (3) (0) ls ⟨by omega, rfl⟩ (lv_sub hl [1, 2, 3, 0] rfl)
  obtain ⟨hk, hi⟩ := hI_k
  refine lv_iload_n hx hb dX2_haveSameCorners_2 rfl (lv_at hl 3 rfl) ?_
  refine lv_iconst (v := nI (3)) hx hb dX2_haveSameCorners_3 (by decide) ?_
  refine lv_icmp_ge (tgt := 35) hx hb dX2_haveSameCorners_4 (by decide) (fun c_1 => ?_) (fun c_1 => ?_)
  · skip
    have c_1 : 3 ≤ n := (nI_leI (a := 3) (b := n) (by omega) (by omega)).mp c_1
    refine lv_iconst (v := nI (1)) hx hb dX2_haveSameCorners_35 (by decide) ?_
    exact ro_zret hx hb hr (by decide) (rb_1 (by rw [hi, show k = 0 by omega]; rfl)) dX2_haveSameCorners_36 hlocks
  · skip
    have c_1 : ¬ (3 ≤ n) := fun hq9 => c_1 ((nI_leI (a := 3) (b := n) (by omega) (by omega)).mpr hq9)
    refine lv_aload_n hx hb dX2_haveSameCorners_7 rfl (lv_at hl 0 rfl) ?_
    refine va_get (D := (dC, dI)) (ci := 2) (v := .ref (a 4)) (C := RX2) (T := TX2) (N := 6) hx hb hts (by decide +kernel) hown hK hP 0 rfl rfl 1 (by decide) (hts (.fieldLink RX2 19 "TriangleSheet" "triangles" "LTriangleSheet$Triangles;") (by decide +kernel)) (fun _ h9 => h9) rfl dX2_haveSameCorners_8 ?_
    refine lv_iload_n hx hb dX2_haveSameCorners_11 rfl (lv_at hl 2 rfl) ?_
    refine lv_aload_n hx hb dX2_haveSameCorners_12 rfl (lv_at hl 0 rfl) ?_
    refine va_get (D := (dC, dI)) (ci := 2) (v := .ref (a 4)) (C := RX2) (T := TX2) (N := 6) hx hb hts (by decide +kernel) hown hK hP 0 rfl rfl 1 (by decide) (hts (.fieldLink RX2 19 "TriangleSheet" "triangles" "LTriangleSheet$Triangles;") (by decide +kernel)) (fun _ h9 => h9) rfl dX2_haveSameCorners_13 ?_
    refine lv_iload_n hx hb dX2_haveSameCorners_16 rfl (lv_at hl 1 rfl) ?_
    refine lv_iload_n hx hb dX2_haveSameCorners_17 rfl (lv_at hl 3 rfl) ?_
    refine ro_V (As := [.int (nI (t)), .int (nI (n))]) (rest := [.int (nI (u)), .ref (a 4)]) (q0 := 4) (ci := 1) hx hb hml hown hts (c_X1_cornerOf l dC dI cI cL cZ a v t n (by omega) (by omega)) (cwV 2 hts gX2_haveSameCorners_X1_cornerOf rfl rfl rfl (by decide +kernel) ⟨Nat.le_of_ble_eq_true rfl, Nat.le_of_ble_eq_true rfl⟩) hK hP rfl rfl rfl hl.1 rfl (Nat.le_of_ble_eq_true rfl) dX2_haveSameCorners_18 ⟨Nat.zero_le _, Nat.zero_le _⟩ ?_
    refine ro_V (As := [.int (nI (u)), .int (nI (gc v.1 t n))]) (rest := []) (q0 := 4) (ci := 1) hx hb hml hown hts (c_X1_hasCorner l dC dI cI cL cZ a v u (gc v.1 t n) hv (by omega) (gc_lt hv.1)) (cwV 2 hts gX2_haveSameCorners_X1_hasCorner rfl rfl rfl (by decide +kernel) ⟨Nat.le_of_ble_eq_true rfl, Nat.le_of_ble_eq_true rfl⟩) hK hP rfl rfl rfl hl.1 rfl (Nat.le_of_ble_eq_true rfl) dX2_haveSameCorners_21 ⟨Nat.zero_le _, Nat.zero_le _⟩ ?_
    refine lv_if_ne (tgt := 29) hx hb dX2_haveSameCorners_24 (by decide) (fun c_2 => ?_) (fun c_2 => ?_)
    · skip
      have c_2 : (hcr v.1 u (gc v.1 t n)) = true := bI_t c_2
      refine lv_iinc (v := nI (n + 1)) (lv' := [(3, .int (nI (n + 1))), (0, .ref (a 0)), (1, .int (nI (t))), (2, .int (nI (u)))]) hx hb dX2_haveSameCorners_29 hl (k := 3) rfl (nI_1 (n)) (by decide) rfl (fun ls hl => ?_)
      refine lv_goto (tgt := 2) hx hb dX2_haveSameCorners_32 (by decide) ?_
      exact ih_k (k - 1) (n + 1) ls (by omega) ⟨by omega, hi.trans (alf_t (by omega) (by simp [c_1, c_2]))⟩ (lv_sub hl [1, 2, 3, 0] rfl)
    · skip
      have c_2 : (hcr v.1 u (gc v.1 t n)) = false := bI_f c_2
      refine lv_iconst (v := nI (0)) hx hb dX2_haveSameCorners_27 (by decide) ?_
      exact ro_zret hx hb hr (by decide) (rb_0 (by rw [hi, alf_f (by omega) (by assumption)])) dX2_haveSameCorners_28 hlocks
set_option maxHeartbeats 4000000 in
set_option maxRecDepth 100000 in
theorem c_X2_reachesInto (l : Launch) (dC : Nat → ClassId) (dI : Nat → Nat → Nat) (cI cL cZ : ClassId) (a : Nat → Nat) (v : SV) (t u : Nat) (hv : okS v) (ht : t < 200) (hu : u < 200) : Met l yX2_reachesInto wsX2_reachesInto ({ frames := 3, cells := 0, slots := 0, locals := 72 }) (va_Pc [.ref (a 0), .int (nI (t)), .int (nI (u))] (ro_B (dC, dI) vwCl (wS cI cL a v) (tyS cI cL cZ))) (k2_QcV (.int (bI (rea v.1 t u)))) 0 0 (fun _ => False) := by
  refine ro_Met (cc := cX2_reachesInto) (maxL := 5) (ret := (some .boolean)) (by decide) rfl (Nat.le_of_ble_eq_true rfl) ?_
  intro pr en s m below meth co ls hx hb hml hr hlocks hown hts hP hK hl
  have hl : lv_has ls 5 [(0, .ref (a 0)), (1, .int (nI (t))), (2, .int (nI (u)))] := hl
  have hown : s.vm.findClass RX2 = some m.cls := hown
  have hvp : sPn v ≤ 60 ∧ sTn v ≤ 60 ∧ sTm v ≤ 200 := ⟨hv.2.1, hv.2.2.2.1, hv.2.2.2.2.1⟩
  refine lv_iconst (v := nI (0)) hx hb dX2_reachesInto_0 (by decide) ?_
  refine lv_istore_n (lv' := [(3, .int (nI (0))), (0, .ref (a 0)), (1, .int (nI (t))), (2, .int (nI (u)))]) hx hb dX2_reachesInto_1 rfl hl (by decide) rfl (fun ls hl => ?_)
  refine lp (σ := Nat) (LV := fun n => [(0, .ref (a 0)), (1, .int (nI (t))), (2, .int (nI (u))), (3, .int (nI (n)))]) (I := fun k n => n + k = 3 ∧ fnd (fun k => !hcr v.1 u (gc v.1 t k) && has v.1 u (gx v.1 (gc v.1 t k)) (gy v.1 (gc v.1 t k))) 3 0 = fnd (fun k => !hcr v.1 u (gc v.1 t k) && has v.1 u (gx v.1 (gc v.1 t k)) (gy v.1 (gc v.1 t k))) k n) (fun k n ls hI_k hl ih_k => ?_) (3) (0) ls ⟨by omega, rfl⟩ (lv_sub hl [1, 2, 3, 0] rfl)
  obtain ⟨hk, hi⟩ := hI_k
  refine lv_iload_n hx hb dX2_reachesInto_2 rfl (lv_at hl 3 rfl) ?_
  refine lv_iconst (v := nI (3)) hx hb dX2_reachesInto_3 (by decide) ?_
  refine lv_icmp_ge (tgt := 65) hx hb dX2_reachesInto_4 (by decide) (fun c_1 => ?_) (fun c_1 => ?_)
  · skip
    have c_1 : 3 ≤ n := (nI_leI (a := 3) (b := n) (by omega) (by omega)).mp c_1
    refine lv_iconst (v := nI (0)) hx hb dX2_reachesInto_65 (by decide) ?_
    exact ro_zret hx hb hr (by decide) (rb_0 (by rw [rea, hi, show k = 0 by omega]; rfl)) dX2_reachesInto_66 hlocks
  · skip
    have c_1 : ¬ (3 ≤ n) := fun hq9 => c_1 ((nI_leI (a := 3) (b := n) (by omega) (by omega)).mpr hq9)
    refine lv_aload_n hx hb dX2_reachesInto_7 rfl (lv_at hl 0 rfl) ?_
    refine va_get (D := (dC, dI)) (ci := 2) (v := .ref (a 4)) (C := RX2) (T := TX2) (N := 6) hx hb hts (by decide +kernel) hown hK hP 0 rfl rfl 1 (by decide) (hts (.fieldLink RX2 19 "TriangleSheet" "triangles" "LTriangleSheet$Triangles;") (by decide +kernel)) (fun _ h9 => h9) rfl dX2_reachesInto_8 ?_
    refine lv_iload_n hx hb dX2_reachesInto_11 rfl (lv_at hl 1 rfl) ?_
    refine lv_iload_n hx hb dX2_reachesInto_12 rfl (lv_at hl 3 rfl) ?_
    refine ro_V (As := [.int (nI (t)), .int (nI (n))]) (rest := []) (q0 := 4) (ci := 1) hx hb hml hown hts (c_X1_cornerOf l dC dI cI cL cZ a v t n (by omega) (by omega)) (cwV 2 hts gX2_reachesInto_X1_cornerOf rfl rfl rfl (by decide +kernel) ⟨Nat.le_of_ble_eq_true rfl, Nat.le_of_ble_eq_true rfl⟩) hK hP rfl rfl rfl hl.1 rfl (Nat.le_of_ble_eq_true rfl) dX2_reachesInto_13 ⟨Nat.zero_le _, Nat.zero_le _⟩ ?_
    refine lv_istore (lv' := [(4, .int (nI (gc v.1 t n))), (0, .ref (a 0)), (1, .int (nI (t))), (2, .int (nI (u))), (3, .int (nI (n)))]) hx hb dX2_reachesInto_16 hl (by decide) rfl (fun ls hl => ?_)
    refine lv_aload_n hx hb dX2_reachesInto_18 rfl (lv_at hl 1 rfl) ?_
    refine va_get (D := (dC, dI)) (ci := 2) (v := .ref (a 4)) (C := RX2) (T := TX2) (N := 6) hx hb hts (by decide +kernel) hown hK hP 0 rfl rfl 1 (by decide) (hts (.fieldLink RX2 19 "TriangleSheet" "triangles" "LTriangleSheet$Triangles;") (by decide +kernel)) (fun _ h9 => h9) rfl dX2_reachesInto_19 ?_
    refine lv_iload_n hx hb dX2_reachesInto_22 rfl (lv_at hl 3 rfl) ?_
    refine lv_iload hx hb dX2_reachesInto_23 (lv_at hl 0 rfl) ?_
    refine ro_V (As := [.int (nI (u)), .int (nI (gc v.1 t n))]) (rest := []) (q0 := 4) (ci := 1) hx hb hml hown hts (c_X1_hasCorner l dC dI cI cL cZ a v u (gc v.1 t n) hv (by omega) (gc_lt hv.1)) (cwV 2 hts gX2_reachesInto_X1_hasCorner rfl rfl rfl (by decide +kernel) ⟨Nat.le_of_ble_eq_true rfl, Nat.le_of_ble_eq_true rfl⟩) hK hP rfl rfl rfl hl.1 rfl (Nat.le_of_ble_eq_true rfl) dX2_reachesInto_25 ⟨Nat.zero_le _, Nat.zero_le _⟩ ?_
    refine lv_if_ne (tgt := 59) hx hb dX2_reachesInto_28 (by decide) (fun c_2 => ?_) (fun c_2 => ?_)
    · skip
      have c_2 : (hcr v.1 u (gc v.1 t n)) = true := bI_t c_2
      refine lv_iinc (v := nI (n + 1)) (lv' := [(3, .int (nI (n + 1))), (4, .int (nI (gc v.1 t n))), (0, .ref (a 0)), (1, .int (nI (t))), (2, .int (nI (u)))]) hx hb dX2_reachesInto_59 hl (k := 4) rfl (nI_1 (n)) (by decide) rfl (fun ls hl => ?_)
      refine lv_goto (tgt := 2) hx hb dX2_reachesInto_62 (by decide) ?_
      exact ih_k (k - 1) (n + 1) ls (by omega) ⟨by omega, hi.trans (fnd_miss (by omega) (by simp [c_1, c_2]))⟩ (lv_sub hl [2, 3, 4, 0] rfl)
    · skip
      have c_2 : (hcr v.1 u (gc v.1 t n)) = false := bI_f c_2
      refine lv_aload_n hx hb dX2_reachesInto_31 rfl (lv_at hl 1 rfl) ?_
      refine lv_iload_n hx hb dX2_reachesInto_32 rfl (lv_at hl 3 rfl) ?_
      refine lv_aload_n hx hb dX2_reachesInto_33 rfl (lv_at hl 1 rfl) ?_
      refine va_get (D := (dC, dI)) (ci := 2) (v := .ref (a 1)) (C := RX2) (T := TX2) (N := 6) hx hb hts (by decide +kernel) hown hK hP 0 rfl rfl 0 (by decide) (hts (.fieldLink RX2 10 "TriangleSheet" "points" "LTriangleSheet$Points;") (by decide +kernel)) (fun _ h9 => h9) rfl dX2_reachesInto_34 ?_
      refine lv_iload hx hb dX2_reachesInto_37 (lv_at hl 0 rfl) ?_
      refine ro_V (As := [.int (nI (gc v.1 t n))]) (rest := [.int (nI (u)), .ref (a 0)]) (q0 := 1) (ci := 0) hx hb hml hown hts (c_X0_x l dC dI cI cL cZ a v (gc v.1 t n) (gc_lt hv.1)) (cwV 1 hts gX2_reachesInto_X0_x rfl rfl rfl (by decide +kernel) ⟨Nat.le_of_ble_eq_true rfl, Nat.le_of_ble_eq_true rfl⟩) hK hP rfl rfl rfl hl.1 rfl (Nat.le_of_ble_eq_true rfl) dX2_reachesInto_39 ⟨Nat.zero_le _, Nat.zero_le _⟩ ?_
      refine lv_aload_n hx hb dX2_reachesInto_42 rfl (lv_at hl 1 rfl) ?_
      refine va_get (D := (dC, dI)) (ci := 2) (v := .ref (a 1)) (C := RX2) (T := TX2) (N := 6) hx hb hts (by decide +kernel) hown hK hP 0 rfl rfl 0 (by decide) (hts (.fieldLink RX2 10 "TriangleSheet" "points" "LTriangleSheet$Points;") (by decide +kernel)) (fun _ h9 => h9) rfl dX2_reachesInto_43 ?_
      refine lv_iload hx hb dX2_reachesInto_46 (lv_at hl 0 rfl) ?_
      refine ro_V (As := [.int (nI (gc v.1 t n))]) (rest := [.int (nI (v.1.1 (gc v.1 t n))), .int (nI (u)), .ref (a 0)]) (q0 := 1) (ci := 0) hx hb hml hown hts (c_X0_y l dC dI cI cL cZ a v (gc v.1 t n) (gc_lt hv.1)) (cwV 1 hts gX2_reachesInto_X0_y rfl rfl rfl (by decide +kernel) ⟨Nat.le_of_ble_eq_true rfl, Nat.le_of_ble_eq_true rfl⟩) hK hP rfl rfl rfl hl.1 rfl (Nat.le_of_ble_eq_true rfl) dX2_reachesInto_48 ⟨Nat.zero_le _, Nat.zero_le _⟩ ?_
      refine ro_V (As := [.int (nI (u)), .int (nI (v.1.1 (gc v.1 t n))), .int (nI (v.1.2.1 (gc v.1 t n)))]) (rest := []) (q0 := 0) (ci := 2) hx hb hml hown hts (c_X2_hasPlace l dC dI cI cL cZ a v u (v.1.1 (gc v.1 t n)) (v.1.2.1 (gc v.1 t n)) hv (by omega) (hv.1.1 _) (hv.1.2.1 _)) (cwV 3 hts gX2_reachesInto_X2_hasPlace rfl rfl rfl (by decide +kernel) ⟨Nat.le_of_ble_eq_true rfl, Nat.le_of_ble_eq_true rfl⟩) hK hP rfl rfl rfl hl.1 rfl (Nat.le_of_ble_eq_true rfl) dX2_reachesInto_51 ⟨Nat.zero_le _, Nat.zero_le _⟩ ?_
      refine rt_i (y := (bI (has v.1 u (gx v.1 (gc v.1 t (n))) (gy v.1 (gc v.1 t (n)))))) rfl ?_
      refine lv_if_eq (tgt := 59) hx hb dX2_reachesInto_54 (by decide) (fun c_3 => ?_) (fun c_3 => ?_)
      · skip
        have c_3 : (has v.1 u (gx v.1 (gc v.1 t (n))) (gy v.1 (gc v.1 t (n)))) = false := bI_f c_3
        refine lv_iinc (v := nI (n + 1)) (lv' := [(3, .int (nI (n + 1))), (4, .int (nI (gc v.1 t n))), (0, .ref (a 0)), (1, .int (nI (t))), (2, .int (nI (u)))]) hx hb dX2_reachesInto_59 hl (k := 4) rfl (nI_1 (n)) (by decide) rfl (fun ls hl => ?_)
        refine lv_goto (tgt := 2) hx hb dX2_reachesInto_62 (by decide) ?_
        exact ih_k (k - 1) (n + 1) ls (by omega) ⟨by omega, hi.trans (fnd_miss (by omega) (by simp [c_1, c_2, c_3]))⟩ (lv_sub hl [2, 3, 4, 0] rfl)
      · skip
        have c_3 : (has v.1 u (gx v.1 (gc v.1 t (n))) (gy v.1 (gc v.1 t (n)))) = true := bI_t c_3
        refine lv_iconst (v := nI (1)) hx hb dX2_reachesInto_57 (by decide) ?_
        exact ro_zret hx hb hr (by decide) (rb_1 (by rw [rea, hi, fnd_hit (by omega) (by simp [c_1, c_2, c_3])]; rfl)) dX2_reachesInto_58 hlocks
set_option maxHeartbeats 4000000 in
set_option maxRecDepth 100000 in
theorem c_X2_crossesAnEdgeOf (l : Launch) (dC : Nat → ClassId) (dI : Nat → Nat → Nat) (cI cL cZ : ClassId) (a : Nat → Nat) (v : SV) (t u : Nat) (hv : okS v) (ht : t < 200) (hu : u < 200) : Met l yX2_crossesAnEdgeOf wsX2_crossesAnEdgeOf ({ frames := 3, cells := 0, slots := 0, locals := 71 }) (va_Pc [.ref (a 0), .int (nI (t)), .int (nI (u))] (ro_B (dC, dI) vwCl (wS cI cL a v) (tyS cI cL cZ))) (k2_QcV (.int (bI (cre v.1 t u)))) 0 0 (fun _ => False) := by
  refine ro_Met (cc := cX2_crossesAnEdgeOf) (maxL := 5) (ret := (some .boolean)) (by decide) rfl (Nat.le_of_ble_eq_true rfl) ?_
  intro pr en s m below meth co ls hx hb hml hr hlocks hown hts hP hK hl
  have hl : lv_has ls 5 [(0, .ref (a 0)), (1, .int (nI (t))), (2, .int (nI (u)))] := hl
  have hown : s.vm.findClass RX2 = some m.cls := hown
  have hvp : sPn v ≤ 60 ∧ sTn v ≤ 60 ∧ sTm v ≤ 200 := ⟨hv.2.1, hv.2.2.2.1, hv.2.2.2.2.1⟩
  refine lv_iconst (v := nI (0)) hx hb dX2_crossesAnEdgeOf_0 (by decide) ?_
  refine lv_istore_n (lv' := [(3, .int (nI (0))), (0, .ref (a 0)), (1, .int (nI (t))), (2, .int (nI (u)))]) hx hb dX2_crossesAnEdgeOf_1 rfl hl (by decide) rfl (fun ls hl => ?_)
  refine lp (σ := Nat) (LV := fun n => [(0, .ref (a 0)), (1, .int (nI (t))), (2, .int (nI (u))), (3, .int (nI (n)))]) (I := fun k n => n + k = 3 ∧ fnd (fun k => cr1 v.1 t u k) 3 0 = fnd (fun k => cr1 v.1 t u k) k n) (fun k n ls hI_k hl ih_k => ?_) (3) (0) ls ⟨by omega, rfl⟩ (lv_sub hl [1, 2, 3, 0] rfl)
  obtain ⟨hk, hi⟩ := hI_k
  refine lv_iload_n hx hb dX2_crossesAnEdgeOf_2 rfl (lv_at hl 3 rfl) ?_
  refine lv_iconst (v := nI (3)) hx hb dX2_crossesAnEdgeOf_3 (by decide) ?_
  refine lv_icmp_ge (tgt := 82) hx hb dX2_crossesAnEdgeOf_4 (by decide) (fun c_1 => ?_) (fun c_1 => ?_)
  · skip
    have c_1 : 3 ≤ n := (nI_leI (a := 3) (b := n) (by omega) (by omega)).mp c_1
    refine lv_iconst (v := nI (0)) hx hb dX2_crossesAnEdgeOf_82 (by decide) ?_
    exact ro_zret hx hb hr (by decide) (rb_0 (by rw [cre, hi, show k = 0 by omega]; rfl)) dX2_crossesAnEdgeOf_83 hlocks
  · skip
    have c_1 : ¬ (3 ≤ n) := fun hq9 => c_1 ((nI_leI (a := 3) (b := n) (by omega) (by omega)).mpr hq9)
    refine lv_iconst (v := nI (0)) hx hb dX2_crossesAnEdgeOf_7 (by decide) ?_
    refine lv_istore (lv' := [(4, .int (nI (0))), (0, .ref (a 0)), (1, .int (nI (t))), (2, .int (nI (u))), (3, .int (nI (n)))]) hx hb dX2_crossesAnEdgeOf_8 hl (by decide) rfl (fun ls hl => ?_)
    refine lp (σ := Nat) (LV := fun m2 => [(0, .ref (a 0)), (1, .int (nI (t))), (2, .int (nI (u))), (3, .int (nI (n))), (4, .int (nI (m2)))]) (I := fun k2 m2 => m2 + k2 = 3 ∧ fnd (fun m => crs v.1 (gc v.1 t n) (gc v.1 t (n + 1)) (gc v.1 u m) (gc v.1 u (m + 1))) 3 0 = fnd (fun m => crs v.1 (gc v.1 t n) (gc v.1 t (n + 1)) (gc v.1 u m) (gc v.1 u (m + 1))) k2 m2) (fun k2 m2 ls hI_k2 hl ih_k2 => ?_) (3) (0) ls ⟨by omega, rfl⟩ (lv_sub hl [1, 2, 3, 4, 0] rfl)
    obtain ⟨hk2, hi2⟩ := hI_k2
    refine lv_iload hx hb dX2_crossesAnEdgeOf_10 (lv_at hl 4 rfl) ?_
    refine lv_iconst (v := nI (3)) hx hb dX2_crossesAnEdgeOf_12 (by decide) ?_
    refine lv_icmp_ge (tgt := 76) hx hb dX2_crossesAnEdgeOf_13 (by decide) (fun c_2 => ?_) (fun c_2 => ?_)
    · skip
      have c_2 : 3 ≤ m2 := (nI_leI (a := 3) (b := m2) (by omega) (by omega)).mp c_2
      refine lv_iinc (v := nI (n + 1)) (lv' := [(3, .int (nI (n + 1))), (0, .ref (a 0)), (1, .int (nI (t))), (2, .int (nI (u))), (4, .int (nI (m2)))]) hx hb dX2_crossesAnEdgeOf_76 hl (k := 3) rfl (nI_1 (n)) (by decide) rfl (fun ls hl => ?_)
      refine lv_goto (tgt := 2) hx hb dX2_crossesAnEdgeOf_79 (by decide) ?_
      exact ih_k (k - 1) (n + 1) ls (by omega) ⟨by omega, hi.trans (fnd_miss (by omega) (by rw [cr1, hi2, show k2 = 0 by omega]; rfl))⟩ (lv_sub hl [1, 2, 3, 0] rfl)
    · skip
      have c_2 : ¬ (3 ≤ m2) := fun hq9 => c_2 ((nI_leI (a := 3) (b := m2) (by omega) (by omega)).mpr hq9)
      refine lv_aload_n hx hb dX2_crossesAnEdgeOf_16 rfl (lv_at hl 0 rfl) ?_
      refine va_get (D := (dC, dI)) (ci := 2) (v := .ref (a 1)) (C := RX2) (T := TX2) (N := 6) hx hb hts (by decide +kernel) hown hK hP 0 rfl rfl 0 (by decide) (hts (.fieldLink RX2 10 "TriangleSheet" "points" "LTriangleSheet$Points;") (by decide +kernel)) (fun _ h9 => h9) rfl dX2_crossesAnEdgeOf_17 ?_
      refine lv_aload_n hx hb dX2_crossesAnEdgeOf_20 rfl (lv_at hl 0 rfl) ?_
      refine va_get (D := (dC, dI)) (ci := 2) (v := .ref (a 4)) (C := RX2) (T := TX2) (N := 6) hx hb hts (by decide +kernel) hown hK hP 0 rfl rfl 1 (by decide) (hts (.fieldLink RX2 19 "TriangleSheet" "triangles" "LTriangleSheet$Triangles;") (by decide +kernel)) (fun _ h9 => h9) rfl dX2_crossesAnEdgeOf_21 ?_
      refine lv_iload_n hx hb dX2_crossesAnEdgeOf_24 rfl (lv_at hl 1 rfl) ?_
      refine lv_iload_n hx hb dX2_crossesAnEdgeOf_25 rfl (lv_at hl 3 rfl) ?_
      refine ro_V (As := [.int (nI (t)), .int (nI (n))]) (rest := [.ref (a 1)]) (q0 := 4) (ci := 1) hx hb hml hown hts (c_X1_cornerOf l dC dI cI cL cZ a v t n (by omega) (by omega)) (cwV 2 hts gX2_crossesAnEdgeOf_X1_cornerOf rfl rfl rfl (by decide +kernel) ⟨Nat.le_of_ble_eq_true rfl, Nat.le_of_ble_eq_true rfl⟩) hK hP rfl rfl rfl hl.1 rfl (Nat.le_of_ble_eq_true rfl) dX2_crossesAnEdgeOf_26 ⟨Nat.zero_le _, Nat.zero_le _⟩ ?_
      refine lv_aload_n hx hb dX2_crossesAnEdgeOf_29 rfl (lv_at hl 0 rfl) ?_
      refine va_get (D := (dC, dI)) (ci := 2) (v := .ref (a 4)) (C := RX2) (T := TX2) (N := 6) hx hb hts (by decide +kernel) hown hK hP 0 rfl rfl 1 (by decide) (hts (.fieldLink RX2 19 "TriangleSheet" "triangles" "LTriangleSheet$Triangles;") (by decide +kernel)) (fun _ h9 => h9) rfl dX2_crossesAnEdgeOf_30 ?_
      refine lv_iload_n hx hb dX2_crossesAnEdgeOf_33 rfl (lv_at hl 1 rfl) ?_
      refine lv_iload_n hx hb dX2_crossesAnEdgeOf_34 rfl (lv_at hl 3 rfl) ?_
      refine lv_iconst (v := nI (1)) hx hb dX2_crossesAnEdgeOf_35 (by decide) ?_
      refine lv_iadd hx hb dX2_crossesAnEdgeOf_36 ?_
      refine rt_i (y := (nI (n + 1))) (nn_add (n) (1)) ?_
      refine ro_V (As := [.int (nI (t)), .int (nI (n + 1))]) (rest := [.int (nI (gc v.1 t n)), .ref (a 1)]) (q0 := 4) (ci := 1) hx hb hml hown hts (c_X1_cornerOf l dC dI cI cL cZ a v t (n + 1) (by omega) (by omega)) (cwV 2 hts gX2_crossesAnEdgeOf_X1_cornerOf rfl rfl rfl (by decide +kernel) ⟨Nat.le_of_ble_eq_true rfl, Nat.le_of_ble_eq_true rfl⟩) hK hP rfl rfl rfl hl.1 rfl (Nat.le_of_ble_eq_true rfl) dX2_crossesAnEdgeOf_37 ⟨Nat.zero_le _, Nat.zero_le _⟩ ?_
      refine lv_aload_n hx hb dX2_crossesAnEdgeOf_40 rfl (lv_at hl 0 rfl) ?_
      refine va_get (D := (dC, dI)) (ci := 2) (v := .ref (a 4)) (C := RX2) (T := TX2) (N := 6) hx hb hts (by decide +kernel) hown hK hP 0 rfl rfl 1 (by decide) (hts (.fieldLink RX2 19 "TriangleSheet" "triangles" "LTriangleSheet$Triangles;") (by decide +kernel)) (fun _ h9 => h9) rfl dX2_crossesAnEdgeOf_41 ?_
      refine lv_iload_n hx hb dX2_crossesAnEdgeOf_44 rfl (lv_at hl 2 rfl) ?_
      refine lv_iload hx hb dX2_crossesAnEdgeOf_45 (lv_at hl 4 rfl) ?_
      refine ro_V (As := [.int (nI (u)), .int (nI (m2))]) (rest := [.int (nI (gc v.1 t (n + 1))), .int (nI (gc v.1 t n)), .ref (a 1)]) (q0 := 4) (ci := 1) hx hb hml hown hts (c_X1_cornerOf l dC dI cI cL cZ a v u m2 (by omega) (by omega)) (cwV 2 hts gX2_crossesAnEdgeOf_X1_cornerOf rfl rfl rfl (by decide +kernel) ⟨Nat.le_of_ble_eq_true rfl, Nat.le_of_ble_eq_true rfl⟩) hK hP rfl rfl rfl hl.1 rfl (Nat.le_of_ble_eq_true rfl) dX2_crossesAnEdgeOf_47 ⟨Nat.zero_le _, Nat.zero_le _⟩ ?_
      refine lv_aload_n hx hb dX2_crossesAnEdgeOf_50 rfl (lv_at hl 0 rfl) ?_
      refine va_get (D := (dC, dI)) (ci := 2) (v := .ref (a 4)) (C := RX2) (T := TX2) (N := 6) hx hb hts (by decide +kernel) hown hK hP 0 rfl rfl 1 (by decide) (hts (.fieldLink RX2 19 "TriangleSheet" "triangles" "LTriangleSheet$Triangles;") (by decide +kernel)) (fun _ h9 => h9) rfl dX2_crossesAnEdgeOf_51 ?_
      refine lv_iload_n hx hb dX2_crossesAnEdgeOf_54 rfl (lv_at hl 2 rfl) ?_
      refine lv_iload hx hb dX2_crossesAnEdgeOf_55 (lv_at hl 4 rfl) ?_
      refine lv_iconst (v := nI (1)) hx hb dX2_crossesAnEdgeOf_57 (by decide) ?_
      refine lv_iadd hx hb dX2_crossesAnEdgeOf_58 ?_
      refine rt_i (y := (nI (m2 + 1))) (nn_add (m2) (1)) ?_
      refine ro_V (As := [.int (nI (u)), .int (nI (m2 + 1))]) (rest := [.int (nI (gc v.1 u m2)), .int (nI (gc v.1 t (n + 1))), .int (nI (gc v.1 t n)), .ref (a 1)]) (q0 := 4) (ci := 1) hx hb hml hown hts (c_X1_cornerOf l dC dI cI cL cZ a v u (m2 + 1) (by omega) (by omega)) (cwV 2 hts gX2_crossesAnEdgeOf_X1_cornerOf rfl rfl rfl (by decide +kernel) ⟨Nat.le_of_ble_eq_true rfl, Nat.le_of_ble_eq_true rfl⟩) hK hP rfl rfl rfl hl.1 rfl (Nat.le_of_ble_eq_true rfl) dX2_crossesAnEdgeOf_59 ⟨Nat.zero_le _, Nat.zero_le _⟩ ?_
      refine ro_V (As := [.int (nI (gc v.1 t n)), .int (nI (gc v.1 t (n + 1))), .int (nI (gc v.1 u m2)), .int (nI (gc v.1 u (m2 + 1)))]) (rest := []) (q0 := 1) (ci := 0) hx hb hml hown hts (c_X0_isCrossing l dC dI cI cL cZ a v (gc v.1 t n) (gc v.1 t (n + 1)) (gc v.1 u m2) (gc v.1 u (m2 + 1)) hv (gc_lt hv.1) (gc_lt hv.1) (gc_lt hv.1) (gc_lt hv.1)) (cwV 4 hts gX2_crossesAnEdgeOf_X0_isCrossing rfl rfl rfl (by decide +kernel) ⟨Nat.le_of_ble_eq_true rfl, Nat.le_of_ble_eq_true rfl⟩) hK hP rfl rfl rfl hl.1 rfl (Nat.le_of_ble_eq_true rfl) dX2_crossesAnEdgeOf_62 ⟨Nat.zero_le _, Nat.zero_le _⟩ ?_
      refine lv_if_eq (tgt := 70) hx hb dX2_crossesAnEdgeOf_65 (by decide) (fun c_3 => ?_) (fun c_3 => ?_)
      · skip
        have c_3 : (crs v.1 (gc v.1 t n) (gc v.1 t (n + 1)) (gc v.1 u m2) (gc v.1 u (m2 + 1))) = false := bI_f c_3
        refine lv_iinc (v := nI (m2 + 1)) (lv' := [(4, .int (nI (m2 + 1))), (0, .ref (a 0)), (1, .int (nI (t))), (2, .int (nI (u))), (3, .int (nI (n)))]) hx hb dX2_crossesAnEdgeOf_70 hl (k := 4) rfl (nI_1 (m2)) (by decide) rfl (fun ls hl => ?_)
        refine lv_goto (tgt := 10) hx hb dX2_crossesAnEdgeOf_73 (by decide) ?_
        exact ih_k2 (k2 - 1) (m2 + 1) ls (by omega) ⟨by omega, hi2.trans (fnd_miss (by omega) (by simp [c_1, c_2, c_3]))⟩ (lv_sub hl [1, 2, 3, 4, 0] rfl)
      · skip
        have c_3 : (crs v.1 (gc v.1 t n) (gc v.1 t (n + 1)) (gc v.1 u m2) (gc v.1 u (m2 + 1))) = true := bI_t c_3
        refine lv_iconst (v := nI (1)) hx hb dX2_crossesAnEdgeOf_68 (by decide) ?_
        exact ro_zret hx hb hr (by decide) (rb_1 (by rw [cre, hi, fnd_hit (by omega) (by rw [cr1, hi2, fnd_hit (by omega) (by assumption)]; rfl)]; rfl)) dX2_crossesAnEdgeOf_69 hlocks
set_option maxHeartbeats 4000000 in
set_option maxRecDepth 100000 in
theorem c_X2_areTidy (l : Launch) (dC : Nat → ClassId) (dI : Nat → Nat → Nat) (cI cL cZ : ClassId) (a : Nat → Nat) (v : SV) (t u : Nat) (hv : okS v) (ht : t < 200) (hu : u < 200) : Met l yX2_areTidy wsX2_areTidy ({ frames := 4, cells := 0, slots := 0, locals := 96 }) (va_Pc [.ref (a 0), .int (nI (t)), .int (nI (u))] (ro_B (dC, dI) vwCl (wS cI cL a v) (tyS cI cL cZ))) (k2_QcV (.int (bI (tid v.1 t u)))) 0 0 (fun _ => False) := by
  refine ro_Met (cc := cX2_areTidy) (maxL := 3) (ret := (some .boolean)) (by decide) rfl (Nat.le_of_ble_eq_true rfl) ?_
  intro pr en s m below meth co ls hx hb hml hr hlocks hown hts hP hK hl
  have hl : lv_has ls 3 [(0, .ref (a 0)), (1, .int (nI (t))), (2, .int (nI (u)))] := hl
  have hown : s.vm.findClass RX2 = some m.cls := hown
  have hvp : sPn v ≤ 60 ∧ sTn v ≤ 60 ∧ sTm v ≤ 200 := ⟨hv.2.1, hv.2.2.2.1, hv.2.2.2.2.1⟩
  refine lv_aload_n hx hb dX2_areTidy_0 rfl (lv_at hl 0 rfl) ?_
  refine lv_iload_n hx hb dX2_areTidy_1 rfl (lv_at hl 1 rfl) ?_
  refine lv_iload_n hx hb dX2_areTidy_2 rfl (lv_at hl 2 rfl) ?_
  refine ro_V (As := [.int (nI (t)), .int (nI (u))]) (rest := []) (q0 := 0) (ci := 2) hx hb hml hown hts (c_X2_areFarApart l dC dI cI cL cZ a v t u hv (by omega) (by omega)) (cwV 2 hts gX2_areTidy_X2_areFarApart rfl rfl rfl (by decide +kernel) ⟨Nat.le_of_ble_eq_true rfl, Nat.le_of_ble_eq_true rfl⟩) hK hP rfl rfl rfl hl.1 rfl (Nat.le_of_ble_eq_true rfl) dX2_areTidy_3 ⟨Nat.zero_le _, Nat.zero_le _⟩ ?_
  refine lv_if_eq (tgt := 11) hx hb dX2_areTidy_6 (by decide) (fun c_1 => ?_) (fun c_1 => ?_)
  · skip
    have c_1 : (far v.1 t u) = false := bI_f c_1
    refine lv_aload_n hx hb dX2_areTidy_11 rfl (lv_at hl 0 rfl) ?_
    refine lv_iload_n hx hb dX2_areTidy_12 rfl (lv_at hl 1 rfl) ?_
    refine lv_iload_n hx hb dX2_areTidy_13 rfl (lv_at hl 2 rfl) ?_
    refine ro_V (As := [.int (nI (t)), .int (nI (u))]) (rest := []) (q0 := 0) (ci := 2) hx hb hml hown hts (c_X2_haveSameCorners l dC dI cI cL cZ a v t u hv (by omega) (by omega)) (cwV 2 hts gX2_areTidy_X2_haveSameCorners rfl rfl rfl (by decide +kernel) ⟨Nat.le_of_ble_eq_true rfl, Nat.le_of_ble_eq_true rfl⟩) hK hP rfl rfl rfl hl.1 rfl (Nat.le_of_ble_eq_true rfl) dX2_areTidy_14 ⟨Nat.zero_le _, Nat.zero_le _⟩ ?_
    refine lv_if_ne (tgt := 51) hx hb dX2_areTidy_17 (by decide) (fun c_2 => ?_) (fun c_2 => ?_)
    · skip
      have c_2 : (sam v.1 t u) = true := bI_t c_2
      refine lv_iconst (v := nI (0)) hx hb dX2_areTidy_51 (by decide) ?_
      exact ro_zret hx hb hr (by decide) (rb_0 (by simp [tid, c_1, c_2])) dX2_areTidy_52 hlocks
    · skip
      have c_2 : (sam v.1 t u) = false := bI_f c_2
      refine lv_aload_n hx hb dX2_areTidy_20 rfl (lv_at hl 0 rfl) ?_
      refine lv_iload_n hx hb dX2_areTidy_21 rfl (lv_at hl 1 rfl) ?_
      refine lv_iload_n hx hb dX2_areTidy_22 rfl (lv_at hl 2 rfl) ?_
      refine ro_V (As := [.int (nI (t)), .int (nI (u))]) (rest := []) (q0 := 0) (ci := 2) hx hb hml hown hts (c_X2_reachesInto l dC dI cI cL cZ a v t u hv (by omega) (by omega)) (cwV 2 hts gX2_areTidy_X2_reachesInto rfl rfl rfl (by decide +kernel) ⟨Nat.le_of_ble_eq_true rfl, Nat.le_of_ble_eq_true rfl⟩) hK hP rfl rfl rfl hl.1 rfl (Nat.le_of_ble_eq_true rfl) dX2_areTidy_23 ⟨Nat.zero_le _, Nat.zero_le _⟩ ?_
      refine lv_if_ne (tgt := 51) hx hb dX2_areTidy_26 (by decide) (fun c_3 => ?_) (fun c_3 => ?_)
      · skip
        have c_3 : (rea v.1 t u) = true := bI_t c_3
        refine lv_iconst (v := nI (0)) hx hb dX2_areTidy_51 (by decide) ?_
        exact ro_zret hx hb hr (by decide) (rb_0 (by simp [tid, c_1, c_2, c_3])) dX2_areTidy_52 hlocks
      · skip
        have c_3 : (rea v.1 t u) = false := bI_f c_3
        refine lv_aload_n hx hb dX2_areTidy_29 rfl (lv_at hl 0 rfl) ?_
        refine lv_iload_n hx hb dX2_areTidy_30 rfl (lv_at hl 2 rfl) ?_
        refine lv_iload_n hx hb dX2_areTidy_31 rfl (lv_at hl 1 rfl) ?_
        refine ro_V (As := [.int (nI (u)), .int (nI (t))]) (rest := []) (q0 := 0) (ci := 2) hx hb hml hown hts (c_X2_reachesInto l dC dI cI cL cZ a v u t hv (by omega) (by omega)) (cwV 2 hts gX2_areTidy_X2_reachesInto rfl rfl rfl (by decide +kernel) ⟨Nat.le_of_ble_eq_true rfl, Nat.le_of_ble_eq_true rfl⟩) hK hP rfl rfl rfl hl.1 rfl (Nat.le_of_ble_eq_true rfl) dX2_areTidy_32 ⟨Nat.zero_le _, Nat.zero_le _⟩ ?_
        refine lv_if_ne (tgt := 51) hx hb dX2_areTidy_35 (by decide) (fun c_4 => ?_) (fun c_4 => ?_)
        · skip
          have c_4 : (rea v.1 u t) = true := bI_t c_4
          refine lv_iconst (v := nI (0)) hx hb dX2_areTidy_51 (by decide) ?_
          exact ro_zret hx hb hr (by decide) (rb_0 (by simp [tid, c_1, c_2, c_3, c_4])) dX2_areTidy_52 hlocks
        · skip
          have c_4 : (rea v.1 u t) = false := bI_f c_4
          refine lv_aload_n hx hb dX2_areTidy_38 rfl (lv_at hl 0 rfl) ?_
          refine lv_iload_n hx hb dX2_areTidy_39 rfl (lv_at hl 1 rfl) ?_
          refine lv_iload_n hx hb dX2_areTidy_40 rfl (lv_at hl 2 rfl) ?_
          refine ro_V (As := [.int (nI (t)), .int (nI (u))]) (rest := []) (q0 := 0) (ci := 2) hx hb hml hown hts (c_X2_crossesAnEdgeOf l dC dI cI cL cZ a v t u hv (by omega) (by omega)) (cwV 2 hts gX2_areTidy_X2_crossesAnEdgeOf rfl rfl rfl (by decide +kernel) ⟨Nat.le_of_ble_eq_true rfl, Nat.le_of_ble_eq_true rfl⟩) hK hP rfl rfl rfl hl.1 rfl (Nat.le_of_ble_eq_true rfl) dX2_areTidy_41 ⟨Nat.zero_le _, Nat.zero_le _⟩ ?_
          refine lv_if_ne (tgt := 51) hx hb dX2_areTidy_44 (by decide) (fun c_5 => ?_) (fun c_5 => ?_)
          · skip
            have c_5 : (cre v.1 t u) = true := bI_t c_5
            refine lv_iconst (v := nI (0)) hx hb dX2_areTidy_51 (by decide) ?_
            exact ro_zret hx hb hr (by decide) (rb_0 (by simp [tid, c_1, c_2, c_3, c_4, c_5])) dX2_areTidy_52 hlocks
          · skip
            have c_5 : (cre v.1 t u) = false := bI_f c_5
            refine lv_iconst (v := nI (1)) hx hb dX2_areTidy_47 (by decide) ?_
            refine lv_goto (tgt := 52) hx hb dX2_areTidy_48 (by decide) ?_
            exact ro_zret hx hb hr (by decide) (rb_1 (by simp [tid, c_1, c_2, c_3, c_4, c_5])) dX2_areTidy_52 hlocks
  · skip
    have c_1 : (far v.1 t u) = true := bI_t c_1
    refine lv_iconst (v := nI (1)) hx hb dX2_areTidy_9 (by decide) ?_
    exact ro_zret hx hb hr (by decide) (rb_1 (by simp [tid, c_1])) dX2_areTidy_10 hlocks
set_option maxHeartbeats 4000000 in
set_option maxRecDepth 100000 in
theorem c_X2_firstUntidyBefore (l : Launch) (dC : Nat → ClassId) (dI : Nat → Nat → Nat) (cI cL cZ : ClassId) (a : Nat → Nat) (v : SV) (i : Nat) (hv : okS v) (hi : i < 60) : Met l yX2_firstUntidyBefore wsX2_firstUntidyBefore ({ frames := 5, cells := 0, slots := 0, locals := 118 }) (va_Pc [.ref (a 0), .int (nI (i))] (ro_B (dC, dI) vwCl (wS cI cL a v) (tyS cI cL cZ))) (k2_QcV (.int (oI (fub v.1 (sTh v) i)))) 0 0 (fun _ => False) := by
  refine ro_Met (cc := cX2_firstUntidyBefore) (maxL := 5) (ret := (some .int)) (by decide) rfl (Nat.le_of_ble_eq_true rfl) ?_
  intro pr en s m below meth co ls hx hb hml hr hlocks hown hts hP hK hl
  have hl : lv_has ls 5 [(0, .ref (a 0)), (1, .int (nI (i)))] := hl
  have hown : s.vm.findClass RX2 = some m.cls := hown
  have hvp : sPn v ≤ 60 ∧ sTn v ≤ 60 ∧ sTm v ≤ 200 := ⟨hv.2.1, hv.2.2.2.1, hv.2.2.2.2.1⟩
  refine lv_aload_n hx hb dX2_firstUntidyBefore_0 rfl (lv_at hl 0 rfl) ?_
  refine va_get (D := (dC, dI)) (ci := 2) (v := .ref (a 4)) (C := RX2) (T := TX2) (N := 6) hx hb hts (by decide +kernel) hown hK hP 0 rfl rfl 1 (by decide) (hts (.fieldLink RX2 19 "TriangleSheet" "triangles" "LTriangleSheet$Triangles;") (by decide +kernel)) (fun _ h9 => h9) rfl dX2_firstUntidyBefore_1 ?_
  refine lv_iload_n hx hb dX2_firstUntidyBefore_4 rfl (lv_at hl 1 rfl) ?_
  refine ro_V (As := [.int (nI (i))]) (rest := []) (q0 := 4) (ci := 1) hx hb hml hown hts (c_X1_numberAt l dC dI cI cL cZ a v i (by omega)) (cwV 1 hts gX2_firstUntidyBefore_X1_numberAt rfl rfl rfl (by decide +kernel) ⟨Nat.le_of_ble_eq_true rfl, Nat.le_of_ble_eq_true rfl⟩) hK hP rfl rfl rfl hl.1 rfl (Nat.le_of_ble_eq_true rfl) dX2_firstUntidyBefore_5 ⟨Nat.zero_le _, Nat.zero_le _⟩ ?_
  refine lv_istore_n (lv' := [(2, .int (nI (sTh v i))), (0, .ref (a 0)), (1, .int (nI (i)))]) hx hb dX2_firstUntidyBefore_8 rfl hl (by decide) rfl (fun ls hl => ?_)
  refine lv_iconst (v := nI (0)) hx hb dX2_firstUntidyBefore_9 (by decide) ?_
  refine lv_istore_n (lv' := [(3, .int (nI (0))), (2, .int (nI (sTh v i))), (0, .ref (a 0)), (1, .int (nI (i)))]) hx hb dX2_firstUntidyBefore_10 rfl hl (by decide) rfl (fun ls hl => ?_)
  refine lp (σ := Nat) (LV := fun n => [(0, .ref (a 0)), (1, .int (nI (i))), (2, .int (nI (sTh v i))), (3, .int (nI (n)))]) (I := fun k n => n + k = i ∧ fnd (fun j => !tid v.1 (sTh v i) (sTh v j)) i 0 = fnd (fun j => !tid v.1 (sTh v i) (sTh v j)) k n) (fun k n ls hI_k hl ih_k => ?_) (i) (0) ls ⟨by omega, rfl⟩ (lv_sub hl [2, 3, 1, 0] rfl)
  obtain ⟨hk, hi3⟩ := hI_k
  refine lv_iload_n hx hb dX2_firstUntidyBefore_11 rfl (lv_at hl 3 rfl) ?_
  refine lv_iload_n hx hb dX2_firstUntidyBefore_12 rfl (lv_at hl 1 rfl) ?_
  refine lv_icmp_ge (tgt := 45) hx hb dX2_firstUntidyBefore_13 (by decide) (fun c_1 => ?_) (fun c_1 => ?_)
  · skip
    have c_1 : i ≤ n := (nI_leI (a := i) (b := n) (by omega) (by omega)).mp c_1
    refine lv_iconst (v := iI (-1)) hx hb dX2_firstUntidyBefore_45 (by decide) ?_
    exact ro_iret hx hb hr (rO (by rw [fub, hi3, show k = 0 by omega]; rfl)) dX2_firstUntidyBefore_46 hlocks
  · skip
    have c_1 : ¬ (i ≤ n) := fun hq9 => c_1 ((nI_leI (a := i) (b := n) (by omega) (by omega)).mpr hq9)
    refine lv_aload_n hx hb dX2_firstUntidyBefore_16 rfl (lv_at hl 0 rfl) ?_
    refine va_get (D := (dC, dI)) (ci := 2) (v := .ref (a 4)) (C := RX2) (T := TX2) (N := 6) hx hb hts (by decide +kernel) hown hK hP 0 rfl rfl 1 (by decide) (hts (.fieldLink RX2 19 "TriangleSheet" "triangles" "LTriangleSheet$Triangles;") (by decide +kernel)) (fun _ h9 => h9) rfl dX2_firstUntidyBefore_17 ?_
    refine lv_iload_n hx hb dX2_firstUntidyBefore_20 rfl (lv_at hl 3 rfl) ?_
    refine ro_V (As := [.int (nI (n))]) (rest := []) (q0 := 4) (ci := 1) hx hb hml hown hts (c_X1_numberAt l dC dI cI cL cZ a v n (by omega)) (cwV 1 hts gX2_firstUntidyBefore_X1_numberAt rfl rfl rfl (by decide +kernel) ⟨Nat.le_of_ble_eq_true rfl, Nat.le_of_ble_eq_true rfl⟩) hK hP rfl rfl rfl hl.1 rfl (Nat.le_of_ble_eq_true rfl) dX2_firstUntidyBefore_21 ⟨Nat.zero_le _, Nat.zero_le _⟩ ?_
    refine lv_istore (lv' := [(4, .int (nI (sTh v n))), (0, .ref (a 0)), (1, .int (nI (i))), (2, .int (nI (sTh v i))), (3, .int (nI (n)))]) hx hb dX2_firstUntidyBefore_24 hl (by decide) rfl (fun ls hl => ?_)
    refine lv_aload_n hx hb dX2_firstUntidyBefore_26 rfl (lv_at hl 1 rfl) ?_
    refine lv_iload_n hx hb dX2_firstUntidyBefore_27 rfl (lv_at hl 3 rfl) ?_
    refine lv_iload hx hb dX2_firstUntidyBefore_28 (lv_at hl 0 rfl) ?_
    refine ro_V (As := [.int (nI (sTh v i)), .int (nI (sTh v n))]) (rest := []) (q0 := 0) (ci := 2) hx hb hml hown hts (c_X2_areTidy l dC dI cI cL cZ a v (sTh v i) (sTh v n) hv (hv.2.2.1 _) (hv.2.2.1 _)) (cwV 2 hts gX2_firstUntidyBefore_X2_areTidy rfl rfl rfl (by decide +kernel) ⟨Nat.le_of_ble_eq_true rfl, Nat.le_of_ble_eq_true rfl⟩) hK hP rfl rfl rfl hl.1 rfl (Nat.le_of_ble_eq_true rfl) dX2_firstUntidyBefore_30 ⟨Nat.zero_le _, Nat.zero_le _⟩ ?_
    refine lv_if_ne (tgt := 39) hx hb dX2_firstUntidyBefore_33 (by decide) (fun c_2 => ?_) (fun c_2 => ?_)
    · skip
      have c_2 : (tid v.1 (sTh v i) (sTh v n)) = true := bI_t c_2
      refine lv_iinc (v := nI (n + 1)) (lv' := [(3, .int (nI (n + 1))), (4, .int (nI (sTh v n))), (0, .ref (a 0)), (1, .int (nI (i))), (2, .int (nI (sTh v i)))]) hx hb dX2_firstUntidyBefore_39 hl (k := 4) rfl (nI_1 (n)) (by decide) rfl (fun ls hl => ?_)
      refine lv_goto (tgt := 11) hx hb dX2_firstUntidyBefore_42 (by decide) ?_
      exact ih_k (k - 1) (n + 1) ls (by omega) ⟨by omega, hi3.trans (fnd_miss (by omega) (by simp [c_1, c_2]))⟩ (lv_sub hl [2, 3, 4, 0] rfl)
    · skip
      have c_2 : (tid v.1 (sTh v i) (sTh v n)) = false := bI_f c_2
      refine lv_iload hx hb dX2_firstUntidyBefore_36 (lv_at hl 0 rfl) ?_
      exact ro_iret hx hb hr (rO (by rw [fub, hi3, fnd_hit (by omega) (by simp [c_1, c_2])]; rfl)) dX2_firstUntidyBefore_38 hlocks
end
