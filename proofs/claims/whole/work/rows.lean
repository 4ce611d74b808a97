section
-- ===== PART A: goes FIRST, ahead of the names: the tables' words, and 'selects' of the private methods out of them =====
/-- a private method of a class that the tables say can be made, by its rows of tables_1 -/
def lw_okq (q : MethodName × Nat) : Prop := (q.1.cls ≠ "java/lang/invoke/MethodHandle" ∧ q.1.cls ≠ "java/lang/invoke/VarHandle") ∧ Cond.instantiable q.1.cls q.2 ∈ tables_1 ∧ Cond.privateMethod q.1 ∈ tables_1 ∧ Cond.instanceMethod q.1 ∈ tables_1
theorem lw_p0 : lw_okq (⟨"PageLayout", "forgetLayout", "()V"⟩, 5) := ⟨⟨by decide +kernel, by decide +kernel⟩, List.mem_of_getElem? (i := 18) (by decide +kernel), List.mem_of_getElem? (i := 223) (by decide +kernel), List.mem_of_getElem? (i := 224) (by decide +kernel)⟩
theorem lw_p1 : lw_okq (⟨"PageLayout$Lines", "layLinesOf", "(I)V"⟩, 6) := ⟨⟨by decide +kernel, by decide +kernel⟩, List.mem_of_getElem? (i := 118) (by decide +kernel), List.mem_of_getElem? (i := 235) (by decide +kernel), List.mem_of_getElem? (i := 236) (by decide +kernel)⟩
theorem lw_p2 : lw_okq (⟨"PageLayout$Lines", "addLine", "(IIII)V"⟩, 6) := ⟨⟨by decide +kernel, by decide +kernel⟩, List.mem_of_getElem? (i := 118) (by decide +kernel), List.mem_of_getElem? (i := 242) (by decide +kernel), List.mem_of_getElem? (i := 243) (by decide +kernel)⟩
theorem lw_p3 : lw_okq (⟨"PageLayout$Lines", "placeSigns", "(LPageLayout$Paragraph;III)V"⟩, 6) := ⟨⟨by decide +kernel, by decide +kernel⟩, List.mem_of_getElem? (i := 118) (by decide +kernel), List.mem_of_getElem? (i := 254) (by decide +kernel), List.mem_of_getElem? (i := 255) (by decide +kernel)⟩
theorem lw_p4 : lw_okq (⟨"PageLayout$Lines", "widthsBehindTab", "(III)I"⟩, 6) := ⟨⟨by decide +kernel, by decide +kernel⟩, List.mem_of_getElem? (i := 118) (by decide +kernel), List.mem_of_getElem? (i := 258) (by decide +kernel), List.mem_of_getElem? (i := 259) (by decide +kernel)⟩
theorem lw_p5 : lw_okq (⟨"PageLayout$Paragraph", "ownStopAbove", "(I)I"⟩, 6) := ⟨⟨by decide +kernel, by decide +kernel⟩, List.mem_of_getElem? (i := 33) (by decide +kernel), List.mem_of_getElem? (i := 270) (by decide +kernel), List.mem_of_getElem? (i := 271) (by decide +kernel)⟩
theorem lw_p6 : lw_okq (⟨"PageLayout$Lines", "heightOf", "(LPageLayout$Paragraph;II)I"⟩, 6) := ⟨⟨by decide +kernel, by decide +kernel⟩, List.mem_of_getElem? (i := 118) (by decide +kernel), List.mem_of_getElem? (i := 282) (by decide +kernel), List.mem_of_getElem? (i := 283) (by decide +kernel)⟩
theorem lw_p7 : lw_okq (⟨"PageLayout$Lines", "align", "(LPageLayout$Paragraph;II)V"⟩, 6) := ⟨⟨by decide +kernel, by decide +kernel⟩, List.mem_of_getElem? (i := 118) (by decide +kernel), List.mem_of_getElem? (i := 286) (by decide +kernel), List.mem_of_getElem? (i := 287) (by decide +kernel)⟩
theorem lw_p8 : lw_okq (⟨"PageLayout$Lines", "widenGaps", "(III)I"⟩, 6) := ⟨⟨by decide +kernel, by decide +kernel⟩, List.mem_of_getElem? (i := 118) (by decide +kernel), List.mem_of_getElem? (i := 291) (by decide +kernel), List.mem_of_getElem? (i := 292) (by decide +kernel)⟩
theorem lw_p9 : lw_okq (⟨"PageLayout$Lines", "signBehindLastTab", "(II)I"⟩, 6) := ⟨⟨by decide +kernel, by decide +kernel⟩, List.mem_of_getElem? (i := 118) (by decide +kernel), List.mem_of_getElem? (i := 295) (by decide +kernel), List.mem_of_getElem? (i := 296) (by decide +kernel)⟩
theorem lw_p10 : lw_okq (⟨"PageLayout$Lines", "lineBehind", "(LPageLayout$Paragraph;II)I"⟩, 6) := ⟨⟨by decide +kernel, by decide +kernel⟩, List.mem_of_getElem? (i := 118) (by decide +kernel), List.mem_of_getElem? (i := 299) (by decide +kernel), List.mem_of_getElem? (i := 300) (by decide +kernel)⟩
theorem lw_p11 : lw_okq (⟨"PageLayout$Ruler", "beginStretch", "(I)V"⟩, 7) := ⟨⟨by decide +kernel, by decide +kernel⟩, List.mem_of_getElem? (i := 126) (by decide +kernel), List.mem_of_getElem? (i := 307) (by decide +kernel), List.mem_of_getElem? (i := 308) (by decide +kernel)⟩
theorem lw_p12 : lw_okq (⟨"PageLayout$Ruler", "endWith", "(I)I"⟩, 7) := ⟨⟨by decide +kernel, by decide +kernel⟩, List.mem_of_getElem? (i := 126) (by decide +kernel), List.mem_of_getElem? (i := 315) (by decide +kernel), List.mem_of_getElem? (i := 316) (by decide +kernel)⟩
theorem lw_p13 : lw_okq (⟨"PageLayout$Pages", "pageBehind", "(I)I"⟩, 5) := ⟨⟨by decide +kernel, by decide +kernel⟩, List.mem_of_getElem? (i := 178) (by decide +kernel), List.mem_of_getElem? (i := 339) (by decide +kernel), List.mem_of_getElem? (i := 340) (by decide +kernel)⟩
theorem lw_p14 : lw_okq (⟨"PageLayout$Pages", "standLines", "(I)I"⟩, 5) := ⟨⟨by decide +kernel, by decide +kernel⟩, List.mem_of_getElem? (i := 178) (by decide +kernel), List.mem_of_getElem? (i := 343) (by decide +kernel), List.mem_of_getElem? (i := 344) (by decide +kernel)⟩
theorem lw_p15 : lw_okq (⟨"PageLayout$Pages", "mustEndAhead", "(I)Z"⟩, 5) := ⟨⟨by decide +kernel, by decide +kernel⟩, List.mem_of_getElem? (i := 178) (by decide +kernel), List.mem_of_getElem? (i := 347) (by decide +kernel), List.mem_of_getElem? (i := 348) (by decide +kernel)⟩
def lw_privs_1 : List (MethodName × Nat) := [(⟨"PageLayout", "forgetLayout", "()V"⟩, 5), (⟨"PageLayout$Lines", "layLinesOf", "(I)V"⟩, 6), (⟨"PageLayout$Lines", "addLine", "(IIII)V"⟩, 6), (⟨"PageLayout$Lines", "placeSigns", "(LPageLayout$Paragraph;III)V"⟩, 6), (⟨"PageLayout$Lines", "widthsBehindTab", "(III)I"⟩, 6), (⟨"PageLayout$Paragraph", "ownStopAbove", "(I)I"⟩, 6), (⟨"PageLayout$Lines", "heightOf", "(LPageLayout$Paragraph;II)I"⟩, 6), (⟨"PageLayout$Lines", "align", "(LPageLayout$Paragraph;II)V"⟩, 6), (⟨"PageLayout$Lines", "widenGaps", "(III)I"⟩, 6), (⟨"PageLayout$Lines", "signBehindLastTab", "(II)I"⟩, 6), (⟨"PageLayout$Lines", "lineBehind", "(LPageLayout$Paragraph;II)I"⟩, 6), (⟨"PageLayout$Ruler", "beginStretch", "(I)V"⟩, 7), (⟨"PageLayout$Ruler", "endWith", "(I)I"⟩, 7), (⟨"PageLayout$Pages", "pageBehind", "(I)I"⟩, 5), (⟨"PageLayout$Pages", "standLines", "(I)I"⟩, 5), (⟨"PageLayout$Pages", "mustEndAhead", "(I)Z"⟩, 5)]
theorem lw_r1 : ∀ q ∈ lw_privs_1, lw_okq q := List.forall_mem_cons.mpr ⟨lw_p0, List.forall_mem_cons.mpr ⟨lw_p1, List.forall_mem_cons.mpr ⟨lw_p2, List.forall_mem_cons.mpr ⟨lw_p3, List.forall_mem_cons.mpr ⟨lw_p4, List.forall_mem_cons.mpr ⟨lw_p5, List.forall_mem_cons.mpr ⟨lw_p6, List.forall_mem_cons.mpr ⟨lw_p7, List.forall_mem_cons.mpr ⟨lw_p8, List.forall_mem_cons.mpr ⟨lw_p9, List.forall_mem_cons.mpr ⟨lw_p10, List.forall_mem_cons.mpr ⟨lw_p11, List.forall_mem_cons.mpr ⟨lw_p12, List.forall_mem_cons.mpr ⟨lw_p13, List.forall_mem_cons.mpr ⟨lw_p14, List.forall_mem_cons.mpr ⟨lw_p15, fun _ h => absurd h List.not_mem_nil⟩⟩⟩⟩⟩⟩⟩⟩⟩⟩⟩⟩⟩⟩⟩⟩
theorem lw_p16 : lw_okq (⟨"PageLayout$Pages", "paragraphOf", "(I)LPageLayout$Paragraph;"⟩, 5) := ⟨⟨by decide +kernel, by decide +kernel⟩, List.mem_of_getElem? (i := 178) (by decide +kernel), List.mem_of_getElem? (i := 359) (by decide +kernel), List.mem_of_getElem? (i := 360) (by decide +kernel)⟩
theorem lw_p17 : lw_okq (⟨"PageLayout$Pages", "bottomOf", "(I)I"⟩, 5) := ⟨⟨by decide +kernel, by decide +kernel⟩, List.mem_of_getElem? (i := 178) (by decide +kernel), List.mem_of_getElem? (i := 363) (by decide +kernel), List.mem_of_getElem? (i := 364) (by decide +kernel)⟩
theorem lw_p18 : lw_okq (⟨"PageLayout$Pages", "spaceAhead", "(I)I"⟩, 5) := ⟨⟨by decide +kernel, by decide +kernel⟩, List.mem_of_getElem? (i := 178) (by decide +kernel), List.mem_of_getElem? (i := 367) (by decide +kernel), List.mem_of_getElem? (i := 368) (by decide +kernel)⟩
theorem lw_p19 : lw_okq (⟨"PageLayout$Pages", "mayEndAhead", "(I)Z"⟩, 5) := ⟨⟨by decide +kernel, by decide +kernel⟩, List.mem_of_getElem? (i := 178) (by decide +kernel), List.mem_of_getElem? (i := 371) (by decide +kernel), List.mem_of_getElem? (i := 372) (by decide +kernel)⟩
theorem lw_p20 : lw_okq (⟨"PageLayout$Pages", "addPage", "(II)V"⟩, 5) := ⟨⟨by decide +kernel, by decide +kernel⟩, List.mem_of_getElem? (i := 178) (by decide +kernel), List.mem_of_getElem? (i := 380) (by decide +kernel), List.mem_of_getElem? (i := 381) (by decide +kernel)⟩
theorem lw_p21 : lw_okq (⟨"java/lang/Throwable", "fillInStackTrace", "(I)Ljava/lang/Throwable;"⟩, 6) := ⟨⟨by decide +kernel, by decide +kernel⟩, List.mem_of_getElem? (i := 434) (by decide +kernel), List.mem_of_getElem? (i := 432) (by decide +kernel), List.mem_of_getElem? (i := 433) (by decide +kernel)⟩
theorem lw_p22 : lw_okq (⟨"PageLayoutModel", "isParagraph", "(I)Z"⟩, 32) := ⟨⟨by decide +kernel, by decide +kernel⟩, List.mem_of_getElem? (i := 599) (by decide +kernel), List.mem_of_getElem? (i := 725) (by decide +kernel), List.mem_of_getElem? (i := 726) (by decide +kernel)⟩
theorem lw_p23 : lw_okq (⟨"PageLayoutModel", "raise", "(I)I"⟩, 32) := ⟨⟨by decide +kernel, by decide +kernel⟩, List.mem_of_getElem? (i := 599) (by decide +kernel), List.mem_of_getElem? (i := 739) (by decide +kernel), List.mem_of_getElem? (i := 740) (by decide +kernel)⟩
theorem lw_p24 : lw_okq (⟨"PageLayoutModel", "broken", "(II)I"⟩, 32) := ⟨⟨by decide +kernel, by decide +kernel⟩, List.mem_of_getElem? (i := 599) (by decide +kernel), List.mem_of_getElem? (i := 751) (by decide +kernel), List.mem_of_getElem? (i := 752) (by decide +kernel)⟩
theorem lw_p25 : lw_okq (⟨"PageLayoutModel", "isEnd", "(I)Z"⟩, 32) := ⟨⟨by decide +kernel, by decide +kernel⟩, List.mem_of_getElem? (i := 599) (by decide +kernel), List.mem_of_getElem? (i := 755) (by decide +kernel), List.mem_of_getElem? (i := 756) (by decide +kernel)⟩
theorem lw_p26 : lw_okq (⟨"PageLayoutModel", "breaks", "(II)Z"⟩, 32) := ⟨⟨by decide +kernel, by decide +kernel⟩, List.mem_of_getElem? (i := 599) (by decide +kernel), List.mem_of_getElem? (i := 759) (by decide +kernel), List.mem_of_getElem? (i := 760) (by decide +kernel)⟩
theorem lw_p27 : lw_okq (⟨"PageLayoutModel", "measure", "(III)I"⟩, 32) := ⟨⟨by decide +kernel, by decide +kernel⟩, List.mem_of_getElem? (i := 599) (by decide +kernel), List.mem_of_getElem? (i := 763) (by decide +kernel), List.mem_of_getElem? (i := 764) (by decide +kernel)⟩
theorem lw_p28 : lw_okq (⟨"PageLayoutModel", "trailing", "(II)I"⟩, 32) := ⟨⟨by decide +kernel, by decide +kernel⟩, List.mem_of_getElem? (i := 599) (by decide +kernel), List.mem_of_getElem? (i := 767) (by decide +kernel), List.mem_of_getElem? (i := 768) (by decide +kernel)⟩
theorem lw_p29 : lw_okq (⟨"PageLayoutModel", "beginning", "(II)I"⟩, 32) := ⟨⟨by decide +kernel, by decide +kernel⟩, List.mem_of_getElem? (i := 599) (by decide +kernel), List.mem_of_getElem? (i := 771) (by decide +kernel), List.mem_of_getElem? (i := 772) (by decide +kernel)⟩
theorem lw_p30 : lw_okq (⟨"PageLayoutModel", "tab", "(IIIII)I"⟩, 32) := ⟨⟨by decide +kernel, by decide +kernel⟩, List.mem_of_getElem? (i := 599) (by decide +kernel), List.mem_of_getElem? (i := 775) (by decide +kernel), List.mem_of_getElem? (i := 776) (by decide +kernel)⟩
theorem lw_p31 : lw_okq (⟨"PageLayoutModel", "stopAbove", "(II)I"⟩, 32) := ⟨⟨by decide +kernel, by decide +kernel⟩, List.mem_of_getElem? (i := 599) (by decide +kernel), List.mem_of_getElem? (i := 779) (by decide +kernel), List.mem_of_getElem? (i := 780) (by decide +kernel)⟩
def lw_privs_2 : List (MethodName × Nat) := [(⟨"PageLayout$Pages", "paragraphOf", "(I)LPageLayout$Paragraph;"⟩, 5), (⟨"PageLayout$Pages", "bottomOf", "(I)I"⟩, 5), (⟨"PageLayout$Pages", "spaceAhead", "(I)I"⟩, 5), (⟨"PageLayout$Pages", "mayEndAhead", "(I)Z"⟩, 5), (⟨"PageLayout$Pages", "addPage", "(II)V"⟩, 5), (⟨"java/lang/Throwable", "fillInStackTrace", "(I)Ljava/lang/Throwable;"⟩, 6), (⟨"PageLayoutModel", "isParagraph", "(I)Z"⟩, 32), (⟨"PageLayoutModel", "raise", "(I)I"⟩, 32), (⟨"PageLayoutModel", "broken", "(II)I"⟩, 32), (⟨"PageLayoutModel", "isEnd", "(I)Z"⟩, 32), (⟨"PageLayoutModel", "breaks", "(II)Z"⟩, 32), (⟨"PageLayoutModel", "measure", "(III)I"⟩, 32), (⟨"PageLayoutModel", "trailing", "(II)I"⟩, 32), (⟨"PageLayoutModel", "beginning", "(II)I"⟩, 32), (⟨"PageLayoutModel", "tab", "(IIIII)I"⟩, 32), (⟨"PageLayoutModel", "stopAbove", "(II)I"⟩, 32)]
theorem lw_r2 : ∀ q ∈ lw_privs_2, lw_okq q := List.forall_mem_cons.mpr ⟨lw_p16, List.forall_mem_cons.mpr ⟨lw_p17, List.forall_mem_cons.mpr ⟨lw_p18, List.forall_mem_cons.mpr ⟨lw_p19, List.forall_mem_cons.mpr ⟨lw_p20, List.forall_mem_cons.mpr ⟨lw_p21, List.forall_mem_cons.mpr ⟨lw_p22, List.forall_mem_cons.mpr ⟨lw_p23, List.forall_mem_cons.mpr ⟨lw_p24, List.forall_mem_cons.mpr ⟨lw_p25, List.forall_mem_cons.mpr ⟨lw_p26, List.forall_mem_cons.mpr ⟨lw_p27, List.forall_mem_cons.mpr ⟨lw_p28, List.forall_mem_cons.mpr ⟨lw_p29, List.forall_mem_cons.mpr ⟨lw_p30, List.forall_mem_cons.mpr ⟨lw_p31, fun _ h => absurd h List.not_mem_nil⟩⟩⟩⟩⟩⟩⟩⟩⟩⟩⟩⟩⟩⟩⟩⟩
theorem lw_p32 : lw_okq (⟨"PageLayoutModel", "plain", "(II)I"⟩, 32) := ⟨⟨by decide +kernel, by decide +kernel⟩, List.mem_of_getElem? (i := 599) (by decide +kernel), List.mem_of_getElem? (i := 783) (by decide +kernel), List.mem_of_getElem? (i := 784) (by decide +kernel)⟩
theorem lw_p33 : lw_okq (⟨"PageLayoutModel", "room", "(I)I"⟩, 32) := ⟨⟨by decide +kernel, by decide +kernel⟩, List.mem_of_getElem? (i := 599) (by decide +kernel), List.mem_of_getElem? (i := 787) (by decide +kernel), List.mem_of_getElem? (i := 788) (by decide +kernel)⟩
theorem lw_p34 : lw_okq (⟨"PageLayoutModel", "layLine", "(IIIZ)V"⟩, 32) := ⟨⟨by decide +kernel, by decide +kernel⟩, List.mem_of_getElem? (i := 599) (by decide +kernel), List.mem_of_getElem? (i := 791) (by decide +kernel), List.mem_of_getElem? (i := 792) (by decide +kernel)⟩
theorem lw_p35 : lw_okq (⟨"PageLayoutModel", "filled", "(I)I"⟩, 32) := ⟨⟨by decide +kernel, by decide +kernel⟩, List.mem_of_getElem? (i := 599) (by decide +kernel), List.mem_of_getElem? (i := 795) (by decide +kernel), List.mem_of_getElem? (i := 796) (by decide +kernel)⟩
theorem lw_p36 : lw_okq (⟨"PageLayoutModel", "between", "(I)I"⟩, 32) := ⟨⟨by decide +kernel, by decide +kernel⟩, List.mem_of_getElem? (i := 599) (by decide +kernel), List.mem_of_getElem? (i := 799) (by decide +kernel), List.mem_of_getElem? (i := 800) (by decide +kernel)⟩
theorem lw_p37 : lw_okq (⟨"PageLayoutModel", "isFirst", "(I)Z"⟩, 32) := ⟨⟨by decide +kernel, by decide +kernel⟩, List.mem_of_getElem? (i := 599) (by decide +kernel), List.mem_of_getElem? (i := 803) (by decide +kernel), List.mem_of_getElem? (i := 804) (by decide +kernel)⟩
theorem lw_p38 : lw_okq (⟨"PageLayoutModel", "mustEnd", "(I)Z"⟩, 32) := ⟨⟨by decide +kernel, by decide +kernel⟩, List.mem_of_getElem? (i := 599) (by decide +kernel), List.mem_of_getElem? (i := 807) (by decide +kernel), List.mem_of_getElem? (i := 808) (by decide +kernel)⟩
theorem lw_p39 : lw_okq (⟨"PageLayoutModel", "mayEnd", "(I)Z"⟩, 32) := ⟨⟨by decide +kernel, by decide +kernel⟩, List.mem_of_getElem? (i := 599) (by decide +kernel), List.mem_of_getElem? (i := 811) (by decide +kernel), List.mem_of_getElem? (i := 812) (by decide +kernel)⟩
theorem lw_p40 : lw_okq (⟨"PageLayoutModel", "isPage", "(I)Z"⟩, 32) := ⟨⟨by decide +kernel, by decide +kernel⟩, List.mem_of_getElem? (i := 599) (by decide +kernel), List.mem_of_getElem? (i := 831) (by decide +kernel), List.mem_of_getElem? (i := 832) (by decide +kernel)⟩
def lw_privs_3 : List (MethodName × Nat) := [(⟨"PageLayoutModel", "plain", "(II)I"⟩, 32), (⟨"PageLayoutModel", "room", "(I)I"⟩, 32), (⟨"PageLayoutModel", "layLine", "(IIIZ)V"⟩, 32), (⟨"PageLayoutModel", "filled", "(I)I"⟩, 32), (⟨"PageLayoutModel", "between", "(I)I"⟩, 32), (⟨"PageLayoutModel", "isFirst", "(I)Z"⟩, 32), (⟨"PageLayoutModel", "mustEnd", "(I)Z"⟩, 32), (⟨"PageLayoutModel", "mayEnd", "(I)Z"⟩, 32), (⟨"PageLayoutModel", "isPage", "(I)Z"⟩, 32)]
theorem lw_r3 : ∀ q ∈ lw_privs_3, lw_okq q := List.forall_mem_cons.mpr ⟨lw_p32, List.forall_mem_cons.mpr ⟨lw_p33, List.forall_mem_cons.mpr ⟨lw_p34, List.forall_mem_cons.mpr ⟨lw_p35, List.forall_mem_cons.mpr ⟨lw_p36, List.forall_mem_cons.mpr ⟨lw_p37, List.forall_mem_cons.mpr ⟨lw_p38, List.forall_mem_cons.mpr ⟨lw_p39, List.forall_mem_cons.mpr ⟨lw_p40, fun _ h => absurd h List.not_mem_nil⟩⟩⟩⟩⟩⟩⟩⟩⟩
def lw_privs : List (MethodName × Nat) := lw_privs_1 ++ (lw_privs_2 ++ (lw_privs_3))
def lw_tbl : List Cond := k2_sels lw_privs ++ tables_1
theorem lw_privs_ok : ∀ q ∈ lw_privs, lw_okq q := by
  show ∀ q ∈ lw_privs_1 ++ (lw_privs_2 ++ (lw_privs_3)), lw_okq q
  exact List.forall_mem_append.mpr ⟨lw_r1, List.forall_mem_append.mpr ⟨lw_r2, lw_r3⟩⟩
-- ===== the words that all contracts stand on: gt, a part of lw_tbl =====
def gt_0 : List Cond := [(Cond.selects "PageLayout" (⟨"PageLayout", "forgetLayout", "()V"⟩ : MethodName) (⟨"PageLayout", "forgetLayout", "()V"⟩ : MethodName)), (Cond.selects "PageLayout$Lines" (⟨"PageLayout$Lines", "layLinesOf", "(I)V"⟩ : MethodName) (⟨"PageLayout$Lines", "layLinesOf", "(I)V"⟩ : MethodName)), (Cond.selects "PageLayout$Lines" (⟨"PageLayout$Lines", "addLine", "(IIII)V"⟩ : MethodName) (⟨"PageLayout$Lines", "addLine", "(IIII)V"⟩ : MethodName)), (Cond.selects "PageLayout$Lines" (⟨"PageLayout$Lines", "placeSigns", "(LPageLayout$Paragraph;III)V"⟩ : MethodName) (⟨"PageLayout$Lines", "placeSigns", "(LPageLayout$Paragraph;III)V"⟩ : MethodName)), (Cond.selects "PageLayout$Lines" (⟨"PageLayout$Lines", "widthsBehindTab", "(III)I"⟩ : MethodName) (⟨"PageLayout$Lines", "widthsBehindTab", "(III)I"⟩ : MethodName)), (Cond.selects "PageLayout$Paragraph" (⟨"PageLayout$Paragraph", "ownStopAbove", "(I)I"⟩ : MethodName) (⟨"PageLayout$Paragraph", "ownStopAbove", "(I)I"⟩ : MethodName)), (Cond.selects "PageLayout$Lines" (⟨"PageLayout$Lines", "heightOf", "(LPageLayout$Paragraph;II)I"⟩ : MethodName) (⟨"PageLayout$Lines", "heightOf", "(LPageLayout$Paragraph;II)I"⟩ : MethodName)), (Cond.selects "PageLayout$Lines" (⟨"PageLayout$Lines", "align", "(LPageLayout$Paragraph;II)V"⟩ : MethodName) (⟨"PageLayout$Lines", "align", "(LPageLayout$Paragraph;II)V"⟩ : MethodName)), (Cond.selects "PageLayout$Lines" (⟨"PageLayout$Lines", "widenGaps", "(III)I"⟩ : MethodName) (⟨"PageLayout$Lines", "widenGaps", "(III)I"⟩ : MethodName)), (Cond.selects "PageLayout$Lines" (⟨"PageLayout$Lines", "signBehindLastTab", "(II)I"⟩ : MethodName) (⟨"PageLayout$Lines", "signBehindLastTab", "(II)I"⟩ : MethodName)), (Cond.selects "PageLayout$Lines" (⟨"PageLayout$Lines", "lineBehind", "(LPageLayout$Paragraph;II)I"⟩ : MethodName) (⟨"PageLayout$Lines", "lineBehind", "(LPageLayout$Paragraph;II)I"⟩ : MethodName)), (Cond.selects "PageLayout$Ruler" (⟨"PageLayout$Ruler", "beginStretch", "(I)V"⟩ : MethodName) (⟨"PageLayout$Ruler", "beginStretch", "(I)V"⟩ : MethodName)), (Cond.selects "PageLayout$Ruler" (⟨"PageLayout$Ruler", "endWith", "(I)I"⟩ : MethodName) (⟨"PageLayout$Ruler", "endWith", "(I)I"⟩ : MethodName)), (Cond.selects "PageLayout$Pages" (⟨"PageLayout$Pages", "pageBehind", "(I)I"⟩ : MethodName) (⟨"PageLayout$Pages", "pageBehind", "(I)I"⟩ : MethodName)), (Cond.selects "PageLayout$Pages" (⟨"PageLayout$Pages", "standLines", "(I)I"⟩ : MethodName) (⟨"PageLayout$Pages", "standLines", "(I)I"⟩ : MethodName)), (Cond.selects "PageLayout$Pages" (⟨"PageLayout$Pages", "mustEndAhead", "(I)Z"⟩ : MethodName) (⟨"PageLayout$Pages", "mustEndAhead", "(I)Z"⟩ : MethodName)), (Cond.selects "PageLayout$Pages" (⟨"PageLayout$Pages", "paragraphOf", "(I)LPageLayout$Paragraph;"⟩ : MethodName) (⟨"PageLayout$Pages", "paragraphOf", "(I)LPageLayout$Paragraph;"⟩ : MethodName)), (Cond.selects "PageLayout$Pages" (⟨"PageLayout$Pages", "bottomOf", "(I)I"⟩ : MethodName) (⟨"PageLayout$Pages", "bottomOf", "(I)I"⟩ : MethodName)), (Cond.selects "PageLayout$Pages" (⟨"PageLayout$Pages", "spaceAhead", "(I)I"⟩ : MethodName) (⟨"PageLayout$Pages", "spaceAhead", "(I)I"⟩ : MethodName)), (Cond.selects "PageLayout$Pages" (⟨"PageLayout$Pages", "mayEndAhead", "(I)Z"⟩ : MethodName) (⟨"PageLayout$Pages", "mayEndAhead", "(I)Z"⟩ : MethodName)), (Cond.selects "PageLayout$Pages" (⟨"PageLayout$Pages", "addPage", "(II)V"⟩ : MethodName) (⟨"PageLayout$Pages", "addPage", "(II)V"⟩ : MethodName)), (Cond.selects "java/lang/Throwable" (⟨"java/lang/Throwable", "fillInStackTrace", "(I)Ljava/lang/Throwable;"⟩ : MethodName) (⟨"java/lang/Throwable", "fillInStackTrace", "(I)Ljava/lang/Throwable;"⟩ : MethodName)), (Cond.selects "PageLayoutModel" (⟨"PageLayoutModel", "isParagraph", "(I)Z"⟩ : MethodName) (⟨"PageLayoutModel", "isParagraph", "(I)Z"⟩ : MethodName)), (Cond.selects "PageLayoutModel" (⟨"PageLayoutModel", "raise", "(I)I"⟩ : MethodName) (⟨"PageLayoutModel", "raise", "(I)I"⟩ : MethodName)), (Cond.selects "PageLayoutModel" (⟨"PageLayoutModel", "broken", "(II)I"⟩ : MethodName) (⟨"PageLayoutModel", "broken", "(II)I"⟩ : MethodName)), (Cond.selects "PageLayoutModel" (⟨"PageLayoutModel", "isEnd", "(I)Z"⟩ : MethodName) (⟨"PageLayoutModel", "isEnd", "(I)Z"⟩ : MethodName)), (Cond.selects "PageLayoutModel" (⟨"PageLayoutModel", "breaks", "(II)Z"⟩ : MethodName) (⟨"PageLayoutModel", "breaks", "(II)Z"⟩ : MethodName)), (Cond.selects "PageLayoutModel" (⟨"PageLayoutModel", "measure", "(III)I"⟩ : MethodName) (⟨"PageLayoutModel", "measure", "(III)I"⟩ : MethodName)), (Cond.selects "PageLayoutModel" (⟨"PageLayoutModel", "trailing", "(II)I"⟩ : MethodName) (⟨"PageLayoutModel", "trailing", "(II)I"⟩ : MethodName)), (Cond.selects "PageLayoutModel" (⟨"PageLayoutModel", "beginning", "(II)I"⟩ : MethodName) (⟨"PageLayoutModel", "beginning", "(II)I"⟩ : MethodName)), (Cond.selects "PageLayoutModel" (⟨"PageLayoutModel", "tab", "(IIIII)I"⟩ : MethodName) (⟨"PageLayoutModel", "tab", "(IIIII)I"⟩ : MethodName)), (Cond.selects "PageLayoutModel" (⟨"PageLayoutModel", "stopAbove", "(II)I"⟩ : MethodName) (⟨"PageLayoutModel", "stopAbove", "(II)I"⟩ : MethodName)), (Cond.selects "PageLayoutModel" (⟨"PageLayoutModel", "plain", "(II)I"⟩ : MethodName) (⟨"PageLayoutModel", "plain", "(II)I"⟩ : MethodName)), (Cond.selects "PageLayoutModel" (⟨"PageLayoutModel", "room", "(I)I"⟩ : MethodName) (⟨"PageLayoutModel", "room", "(I)I"⟩ : MethodName)), (Cond.selects "PageLayoutModel" (⟨"PageLayoutModel", "layLine", "(IIIZ)V"⟩ : MethodName) (⟨"PageLayoutModel", "layLine", "(IIIZ)V"⟩ : MethodName)), (Cond.selects "PageLayoutModel" (⟨"PageLayoutModel", "filled", "(I)I"⟩ : MethodName) (⟨"PageLayoutModel", "filled", "(I)I"⟩ : MethodName)), (Cond.selects "PageLayoutModel" (⟨"PageLayoutModel", "between", "(I)I"⟩ : MethodName) (⟨"PageLayoutModel", "between", "(I)I"⟩ : MethodName)), (Cond.selects "PageLayoutModel" (⟨"PageLayoutModel", "isFirst", "(I)Z"⟩ : MethodName) (⟨"PageLayoutModel", "isFirst", "(I)Z"⟩ : MethodName)), (Cond.selects "PageLayoutModel" (⟨"PageLayoutModel", "mustEnd", "(I)Z"⟩ : MethodName) (⟨"PageLayoutModel", "mustEnd", "(I)Z"⟩ : MethodName)), (Cond.selects "PageLayoutModel" (⟨"PageLayoutModel", "mayEnd", "(I)Z"⟩ : MethodName) (⟨"PageLayoutModel", "mayEnd", "(I)Z"⟩ : MethodName))]
theorem gt_0_in : ∀ w ∈ gt_0, w ∈ lw_tbl := List.forall_mem_cons.mpr ⟨List.mem_of_getElem? (i := 0) (by decide +kernel), List.forall_mem_cons.mpr ⟨List.mem_of_getElem? (i := 1) (by decide +kernel), List.forall_mem_cons.mpr ⟨List.mem_of_getElem? (i := 2) (by decide +kernel), List.forall_mem_cons.mpr ⟨List.mem_of_getElem? (i := 3) (by decide +kernel), List.forall_mem_cons.mpr ⟨List.mem_of_getElem? (i := 4) (by decide +kernel), List.forall_mem_cons.mpr ⟨List.mem_of_getElem? (i := 5) (by decide +kernel), List.forall_mem_cons.mpr ⟨List.mem_of_getElem? (i := 6) (by decide +kernel), List.forall_mem_cons.mpr ⟨List.mem_of_getElem? (i := 7) (by decide +kernel), List.forall_mem_cons.mpr ⟨List.mem_of_getElem? (i := 8) (by decide +kernel), List.forall_mem_cons.mpr ⟨List.mem_of_getElem? (i := 9) (by decide +kernel), List.forall_mem_cons.mpr ⟨List.mem_of_getElem? (i := 10) (by decide +kernel), List.forall_mem_cons.mpr ⟨List.mem_of_getElem? (i := 11) (by decide +kernel), List.forall_mem_cons.mpr ⟨List.mem_of_getElem? (i := 12) (by decide +kernel), List.forall_mem_cons.mpr ⟨List.mem_of_getElem? (i := 13) (by decide +kernel), List.forall_mem_cons.mpr ⟨List.mem_of_getElem? (i := 14) (by decide +kernel), List.forall_mem_cons.mpr ⟨List.mem_of_getElem? (i := 15) (by decide +kernel), List.forall_mem_cons.mpr ⟨List.mem_of_getElem? (i := 16) (by decide +kernel), List.forall_mem_cons.mpr ⟨List.mem_of_getElem? (i := 17) (by decide +kernel), List.forall_mem_cons.mpr ⟨List.mem_of_getElem? (i := 18) (by decide +kernel), List.forall_mem_cons.mpr ⟨List.mem_of_getElem? (i := 19) (by decide +kernel), List.forall_mem_cons.mpr ⟨List.mem_of_getElem? (i := 20) (by decide +kernel), List.forall_mem_cons.mpr ⟨List.mem_of_getElem? (i := 21) (by decide +kernel), List.forall_mem_cons.mpr ⟨List.mem_of_getElem? (i := 22) (by decide +kernel), List.forall_mem_cons.mpr ⟨List.mem_of_getElem? (i := 23) (by decide +kernel), List.forall_mem_cons.mpr ⟨List.mem_of_getElem? (i := 24) (by decide +kernel), List.forall_mem_cons.mpr ⟨List.mem_of_getElem? (i := 25) (by decide +kernel), List.forall_mem_cons.mpr ⟨List.mem_of_getElem? (i := 26) (by decide +kernel), List.forall_mem_cons.mpr ⟨List.mem_of_getElem? (i := 27) (by decide +kernel), List.forall_mem_cons.mpr ⟨List.mem_of_getElem? (i := 28) (by decide +kernel), List.forall_mem_cons.mpr ⟨List.mem_of_getElem? (i := 29) (by decide +kernel), List.forall_mem_cons.mpr ⟨List.mem_of_getElem? (i := 30) (by decide +kernel), List.forall_mem_cons.mpr ⟨List.mem_of_getElem? (i := 31) (by decide +kernel), List.forall_mem_cons.mpr ⟨List.mem_of_getElem? (i := 32) (by decide +kernel), List.forall_mem_cons.mpr ⟨List.mem_of_getElem? (i := 33) (by decide +kernel), List.forall_mem_cons.mpr ⟨List.mem_of_getElem? (i := 34) (by decide +kernel), List.forall_mem_cons.mpr ⟨List.mem_of_getElem? (i := 35) (by decide +kernel), List.forall_mem_cons.mpr ⟨List.mem_of_getElem? (i := 36) (by decide +kernel), List.forall_mem_cons.mpr ⟨List.mem_of_getElem? (i := 37) (by decide +kernel), List.forall_mem_cons.mpr ⟨List.mem_of_getElem? (i := 38) (by decide +kernel), List.forall_mem_cons.mpr ⟨List.mem_of_getElem? (i := 39) (by decide +kernel), fun _ h => absurd h List.not_mem_nil⟩⟩⟩⟩⟩⟩⟩⟩⟩⟩⟩⟩⟩⟩⟩⟩⟩⟩⟩⟩⟩⟩⟩⟩⟩⟩⟩⟩⟩⟩⟩⟩⟩⟩⟩⟩⟩⟩⟩⟩
theorem gt_0_ok : ∀ w ∈ gt_0, (w.onTables && w.keeps) = true := by decide +kernel
def gt_1 : List Cond := [(Cond.selects "PageLayoutModel" (⟨"PageLayoutModel", "isPage", "(I)Z"⟩ : MethodName) (⟨"PageLayoutModel", "isPage", "(I)Z"⟩ : MethodName)), (Jvm.Cond.initialized "PageLayoutLaw"), (Jvm.Cond.initialized "PageLayout"), (Jvm.Cond.initialized "PageLayout$Text"), (Jvm.Cond.initialized "PageLayout$Paragraph"), (Jvm.Cond.initialized "PageLayout$Sheet"), (Jvm.Cond.initialized "PageLayout$Lines"), (Jvm.Cond.initialized "PageLayout$Ruler"), (Jvm.Cond.initialized "PageLayout$Pages"), (Jvm.Cond.initialized "PageLayoutModel"), (Jvm.Cond.initialized "java/lang/Throwable"), (Jvm.Cond.initialized "java/lang/Exception"), (Jvm.Cond.initialized "java/lang/RuntimeException"), (Jvm.Cond.initialized "java/lang/IllegalStateException"), (Jvm.Cond.initialized "java/util/Arrays"), (Jvm.Cond.initialized "java/util/NoSuchElementException"), (Jvm.Cond.initialized "java/lang/IllegalArgumentException"), (Jvm.Cond.initialized "java/lang/Math"), (Jvm.Cond.classLink "PageLayoutLaw" (8 : Nat) "PageLayout"), (Jvm.Cond.instantiable "PageLayout" (5 : Nat)), (Jvm.Cond.methodLink "PageLayoutLaw" (46 : Nat) ({ cls := "PageLayout", name := "<init>", desc := "()V" } : Jvm.MethodName)), (Jvm.Cond.instanceMethod ({ cls := "PageLayout", name := "<init>", desc := "()V" } : Jvm.MethodName)), (Jvm.Cond.code ({ cls := "PageLayout", name := "<init>", desc := "()V" } : Jvm.MethodName) prog_1_method_1_code (1 : Nat) (Option.none : Option Jvm.ClassFile.FieldType)), (Jvm.Cond.methodLink "PageLayout" (3 : Nat) ({ cls := "java/lang/Object", name := "<init>", desc := "()V" } : Jvm.MethodName)), (Jvm.Cond.instanceMethod ({ cls := "java/lang/Object", name := "<init>", desc := "()V" } : Jvm.MethodName)), (Jvm.Cond.code ({ cls := "java/lang/Object", name := "<init>", desc := "()V" } : Jvm.MethodName) object_method_1_code (1 : Nat) (Option.none : Option Jvm.ClassFile.FieldType)), (Jvm.Cond.classLink "PageLayout" (9 : Nat) "PageLayout$Text"), (Jvm.Cond.instantiable "PageLayout$Text" (6 : Nat)), (Jvm.Cond.methodLink "PageLayout" (11 : Nat) ({ cls := "PageLayout$Text", name := "<init>", desc := "()V" } : Jvm.MethodName)), (Jvm.Cond.instanceMethod ({ cls := "PageLayout$Text", name := "<init>", desc := "()V" } : Jvm.MethodName)), (Jvm.Cond.code ({ cls := "PageLayout$Text", name := "<init>", desc := "()V" } : Jvm.MethodName) prog_7_method_1_code (2 : Nat) (Option.none : Option Jvm.ClassFile.FieldType)), (Jvm.Cond.methodLink "PageLayout$Text" (3 : Nat) ({ cls := "java/lang/Object", name := "<init>", desc := "()V" } : Jvm.MethodName)), (Jvm.Cond.classLink "PageLayout$Text" (9 : Nat) "PageLayout$Paragraph"), (Jvm.Cond.instantiable "PageLayout$Paragraph" (6 : Nat)), (Jvm.Cond.instanceMethod ({ cls := "PageLayout$Paragraph", name := "<init>", desc := "()V" } : Jvm.MethodName)), (Jvm.Cond.code ({ cls := "PageLayout$Paragraph", name := "<init>", desc := "()V" } : Jvm.MethodName) prog_4_method_1_code (1 : Nat) (Option.none : Option Jvm.ClassFile.FieldType)), (Jvm.Cond.methodLink "PageLayout$Paragraph" (3 : Nat) ({ cls := "java/lang/Object", name := "<init>", desc := "()V" } : Jvm.MethodName)), (Jvm.Cond.fieldLink "PageLayout$Paragraph" (9 : Nat) "PageLayout$Paragraph" "shape" "[I"), (Jvm.Cond.fieldLink "PageLayout$Lines" (53 : Nat) "PageLayout$Paragraph" "shape" "[I"), (Jvm.Cond.fieldLink "PageLayout" (101 : Nat) "PageLayout$Paragraph" "shape" "[I")]
theorem gt_1_in : ∀ w ∈ gt_1, w ∈ lw_tbl := List.forall_mem_cons.mpr ⟨List.mem_of_getElem? (i := 40) (by decide +kernel), List.forall_mem_cons.mpr ⟨List.mem_of_getElem? (i := 41) (by decide +kernel), List.forall_mem_cons.mpr ⟨List.mem_of_getElem? (i := 42) (by decide +kernel), List.forall_mem_cons.mpr ⟨List.mem_of_getElem? (i := 43) (by decide +kernel), List.forall_mem_cons.mpr ⟨List.mem_of_getElem? (i := 44) (by decide +kernel), List.forall_mem_cons.mpr ⟨List.mem_of_getElem? (i := 45) (by decide +kernel), List.forall_mem_cons.mpr ⟨List.mem_of_getElem? (i := 46) (by decide +kernel), List.forall_mem_cons.mpr ⟨List.mem_of_getElem? (i := 47) (by decide +kernel), List.forall_mem_cons.mpr ⟨List.mem_of_getElem? (i := 48) (by decide +kernel), List.forall_mem_cons.mpr ⟨List.mem_of_getElem? (i := 49) (by decide +kernel), List.forall_mem_cons.mpr ⟨List.mem_of_getElem? (i := 50) (by decide +kernel), List.forall_mem_cons.mpr ⟨List.mem_of_getElem? (i := 51) (by decide +kernel), List.forall_mem_cons.mpr ⟨List.mem_of_getElem? (i := 52) (by decide +kernel), List.forall_mem_cons.mpr ⟨List.mem_of_getElem? (i := 53) (by decide +kernel), List.forall_mem_cons.mpr ⟨List.mem_of_getElem? (i := 54) (by decide +kernel), List.forall_mem_cons.mpr ⟨List.mem_of_getElem? (i := 55) (by decide +kernel), List.forall_mem_cons.mpr ⟨List.mem_of_getElem? (i := 56) (by decide +kernel), List.forall_mem_cons.mpr ⟨List.mem_of_getElem? (i := 57) (by decide +kernel), List.forall_mem_cons.mpr ⟨List.mem_of_getElem? (i := 58) (by decide +kernel), List.forall_mem_cons.mpr ⟨List.mem_of_getElem? (i := 59) (by decide +kernel), List.forall_mem_cons.mpr ⟨List.mem_of_getElem? (i := 60) (by decide +kernel), List.forall_mem_cons.mpr ⟨List.mem_of_getElem? (i := 61) (by decide +kernel), List.forall_mem_cons.mpr ⟨List.mem_of_getElem? (i := 62) (by decide +kernel), List.forall_mem_cons.mpr ⟨List.mem_of_getElem? (i := 63) (by decide +kernel), List.forall_mem_cons.mpr ⟨List.mem_of_getElem? (i := 64) (by decide +kernel), List.forall_mem_cons.mpr ⟨List.mem_of_getElem? (i := 65) (by decide +kernel), List.forall_mem_cons.mpr ⟨List.mem_of_getElem? (i := 66) (by decide +kernel), List.forall_mem_cons.mpr ⟨List.mem_of_getElem? (i := 67) (by decide +kernel), List.forall_mem_cons.mpr ⟨List.mem_of_getElem? (i := 68) (by decide +kernel), List.forall_mem_cons.mpr ⟨List.mem_of_getElem? (i := 69) (by decide +kernel), List.forall_mem_cons.mpr ⟨List.mem_of_getElem? (i := 70) (by decide +kernel), List.forall_mem_cons.mpr ⟨List.mem_of_getElem? (i := 71) (by decide +kernel), List.forall_mem_cons.mpr ⟨List.mem_of_getElem? (i := 72) (by decide +kernel), List.forall_mem_cons.mpr ⟨List.mem_of_getElem? (i := 74) (by decide +kernel), List.forall_mem_cons.mpr ⟨List.mem_of_getElem? (i := 76) (by decide +kernel), List.forall_mem_cons.mpr ⟨List.mem_of_getElem? (i := 77) (by decide +kernel), List.forall_mem_cons.mpr ⟨List.mem_of_getElem? (i := 78) (by decide +kernel), List.forall_mem_cons.mpr ⟨List.mem_of_getElem? (i := 79) (by decide +kernel), List.forall_mem_cons.mpr ⟨List.mem_of_getElem? (i := 80) (by decide +kernel), List.forall_mem_cons.mpr ⟨List.mem_of_getElem? (i := 81) (by decide +kernel), fun _ h => absurd h List.not_mem_nil⟩⟩⟩⟩⟩⟩⟩⟩⟩⟩⟩⟩⟩⟩⟩⟩⟩⟩⟩⟩⟩⟩⟩⟩⟩⟩⟩⟩⟩⟩⟩⟩⟩⟩⟩⟩⟩⟩⟩⟩
theorem gt_1_ok : ∀ w ∈ gt_1, (w.onTables && w.keeps) = true := by decide +kernel
def gt_2 : List Cond := [(Jvm.Cond.fieldLink "PageLayout$Pages" (78 : Nat) "PageLayout$Paragraph" "shape" "[I"), (Jvm.Cond.fieldLink "PageLayout$Paragraph" (15 : Nat) "PageLayout$Paragraph" "stopPlace" "[I"), (Jvm.Cond.fieldLink "PageLayout$Paragraph" (18 : Nat) "PageLayout$Paragraph" "stopKind" "[I"), (Jvm.Cond.fieldLink "PageLayout$Paragraph" (27 : Nat) "PageLayout$Paragraph" "stops" "I"), (Jvm.Cond.fieldLink "PageLayout" (111 : Nat) "PageLayout$Paragraph" "stops" "I"), (Jvm.Cond.fieldLink "PageLayout$Paragraph" (31 : Nat) "PageLayout$Paragraph" "first" "I"), (Jvm.Cond.fieldLink "PageLayout$Lines" (65 : Nat) "PageLayout$Paragraph" "first" "I"), (Jvm.Cond.fieldLink "PageLayout$Paragraph" (34 : Nat) "PageLayout$Paragraph" "behind" "I"), (Jvm.Cond.fieldLink "PageLayout$Lines" (68 : Nat) "PageLayout$Paragraph" "behind" "I"), (Jvm.Cond.fieldLink "PageLayout$Text" (39 : Nat) "PageLayout$Paragraph" "behind" "I"), (Jvm.Cond.laysFinal "PageLayout$Paragraph" "PageLayout$Paragraph" "shape" "[I"), (Jvm.Cond.laysFinal "PageLayout$Paragraph" "PageLayout$Paragraph" "stopPlace" "[I"), (Jvm.Cond.laysFinal "PageLayout$Paragraph" "PageLayout$Paragraph" "stopKind" "[I"), (Jvm.Cond.lays "PageLayout$Paragraph" "PageLayout$Paragraph" "stops" "I"), (Jvm.Cond.lays "PageLayout$Paragraph" "PageLayout$Paragraph" "first" "I"), (Jvm.Cond.lays "PageLayout$Paragraph" "PageLayout$Paragraph" "behind" "I"), (Jvm.Cond.fieldLink "PageLayout$Text" (11 : Nat) "PageLayout$Text" "paragraph" "[LPageLayout$Paragraph;"), (Jvm.Cond.fieldLink "PageLayout$Lines" (49 : Nat) "PageLayout$Text" "paragraph" "[LPageLayout$Paragraph;"), (Jvm.Cond.fieldLink "PageLayout" (97 : Nat) "PageLayout$Text" "paragraph" "[LPageLayout$Paragraph;"), (Jvm.Cond.fieldLink "PageLayout$Pages" (84 : Nat) "PageLayout$Text" "paragraph" "[LPageLayout$Paragraph;"), (Jvm.Cond.fieldLink "PageLayout$Text" (17 : Nat) "PageLayout$Text" "kind" "[I"), (Jvm.Cond.fieldLink "PageLayout$Ruler" (31 : Nat) "PageLayout$Text" "kind" "[I"), (Jvm.Cond.fieldLink "PageLayout$Lines" (121 : Nat) "PageLayout$Text" "kind" "[I"), (Jvm.Cond.fieldLink "PageLayout$Text" (21 : Nat) "PageLayout$Text" "width" "[I"), (Jvm.Cond.fieldLink "PageLayout$Ruler" (56 : Nat) "PageLayout$Text" "width" "[I"), (Jvm.Cond.fieldLink "PageLayout$Text" (24 : Nat) "PageLayout$Text" "height" "[I"), (Jvm.Cond.fieldLink "PageLayout$Lines" (138 : Nat) "PageLayout$Text" "height" "[I"), (Jvm.Cond.fieldLink "PageLayout" (45 : Nat) "PageLayout$Text" "paragraphs" "I"), (Jvm.Cond.fieldLink "PageLayout$Text" (28 : Nat) "PageLayout$Text" "paragraphs" "I"), (Jvm.Cond.fieldLink "PageLayout$Lines" (40 : Nat) "PageLayout$Text" "paragraphs" "I"), (Jvm.Cond.fieldLink "PageLayout$Text" (32 : Nat) "PageLayout$Text" "signs" "I"), (Jvm.Cond.fieldLink "PageLayout" (49 : Nat) "PageLayout$Text" "signs" "I"), (Jvm.Cond.laysFinal "PageLayout$Text" "PageLayout$Text" "paragraph" "[LPageLayout$Paragraph;"), (Jvm.Cond.laysFinal "PageLayout$Text" "PageLayout$Text" "kind" "[I"), (Jvm.Cond.laysFinal "PageLayout$Text" "PageLayout$Text" "width" "[I"), (Jvm.Cond.laysFinal "PageLayout$Text" "PageLayout$Text" "height" "[I"), (Jvm.Cond.lays "PageLayout$Text" "PageLayout$Text" "paragraphs" "I"), (Jvm.Cond.lays "PageLayout$Text" "PageLayout$Text" "signs" "I"), (Jvm.Cond.classLink "PageLayout" (16 : Nat) "PageLayout$Sheet"), (Jvm.Cond.instantiable "PageLayout$Sheet" (3 : Nat))]
theorem gt_2_in : ∀ w ∈ gt_2, w ∈ lw_tbl := List.forall_mem_cons.mpr ⟨List.mem_of_getElem? (i := 82) (by decide +kernel), List.forall_mem_cons.mpr ⟨List.mem_of_getElem? (i := 83) (by decide +kernel), List.forall_mem_cons.mpr ⟨List.mem_of_getElem? (i := 84) (by decide +kernel), List.forall_mem_cons.mpr ⟨List.mem_of_getElem? (i := 85) (by decide +kernel), List.forall_mem_cons.mpr ⟨List.mem_of_getElem? (i := 86) (by decide +kernel), List.forall_mem_cons.mpr ⟨List.mem_of_getElem? (i := 87) (by decide +kernel), List.forall_mem_cons.mpr ⟨List.mem_of_getElem? (i := 88) (by decide +kernel), List.forall_mem_cons.mpr ⟨List.mem_of_getElem? (i := 89) (by decide +kernel), List.forall_mem_cons.mpr ⟨List.mem_of_getElem? (i := 90) (by decide +kernel), List.forall_mem_cons.mpr ⟨List.mem_of_getElem? (i := 91) (by decide +kernel), List.forall_mem_cons.mpr ⟨List.mem_of_getElem? (i := 92) (by decide +kernel), List.forall_mem_cons.mpr ⟨List.mem_of_getElem? (i := 94) (by decide +kernel), List.forall_mem_cons.mpr ⟨List.mem_of_getElem? (i := 96) (by decide +kernel), List.forall_mem_cons.mpr ⟨List.mem_of_getElem? (i := 98) (by decide +kernel), List.forall_mem_cons.mpr ⟨List.mem_of_getElem? (i := 100) (by decide +kernel), List.forall_mem_cons.mpr ⟨List.mem_of_getElem? (i := 102) (by decide +kernel), List.forall_mem_cons.mpr ⟨List.mem_of_getElem? (i := 106) (by decide +kernel), List.forall_mem_cons.mpr ⟨List.mem_of_getElem? (i := 107) (by decide +kernel), List.forall_mem_cons.mpr ⟨List.mem_of_getElem? (i := 108) (by decide +kernel), List.forall_mem_cons.mpr ⟨List.mem_of_getElem? (i := 109) (by decide +kernel), List.forall_mem_cons.mpr ⟨List.mem_of_getElem? (i := 110) (by decide +kernel), List.forall_mem_cons.mpr ⟨List.mem_of_getElem? (i := 111) (by decide +kernel), List.forall_mem_cons.mpr ⟨List.mem_of_getElem? (i := 112) (by decide +kernel), List.forall_mem_cons.mpr ⟨List.mem_of_getElem? (i := 113) (by decide +kernel), List.forall_mem_cons.mpr ⟨List.mem_of_getElem? (i := 114) (by decide +kernel), List.forall_mem_cons.mpr ⟨List.mem_of_getElem? (i := 115) (by decide +kernel), List.forall_mem_cons.mpr ⟨List.mem_of_getElem? (i := 116) (by decide +kernel), List.forall_mem_cons.mpr ⟨List.mem_of_getElem? (i := 117) (by decide +kernel), List.forall_mem_cons.mpr ⟨List.mem_of_getElem? (i := 118) (by decide +kernel), List.forall_mem_cons.mpr ⟨List.mem_of_getElem? (i := 119) (by decide +kernel), List.forall_mem_cons.mpr ⟨List.mem_of_getElem? (i := 120) (by decide +kernel), List.forall_mem_cons.mpr ⟨List.mem_of_getElem? (i := 121) (by decide +kernel), List.forall_mem_cons.mpr ⟨List.mem_of_getElem? (i := 122) (by decide +kernel), List.forall_mem_cons.mpr ⟨List.mem_of_getElem? (i := 124) (by decide +kernel), List.forall_mem_cons.mpr ⟨List.mem_of_getElem? (i := 126) (by decide +kernel), List.forall_mem_cons.mpr ⟨List.mem_of_getElem? (i := 128) (by decide +kernel), List.forall_mem_cons.mpr ⟨List.mem_of_getElem? (i := 130) (by decide +kernel), List.forall_mem_cons.mpr ⟨List.mem_of_getElem? (i := 132) (by decide +kernel), List.forall_mem_cons.mpr ⟨List.mem_of_getElem? (i := 135) (by decide +kernel), List.forall_mem_cons.mpr ⟨List.mem_of_getElem? (i := 136) (by decide +kernel), fun _ h => absurd h List.not_mem_nil⟩⟩⟩⟩⟩⟩⟩⟩⟩⟩⟩⟩⟩⟩⟩⟩⟩⟩⟩⟩⟩⟩⟩⟩⟩⟩⟩⟩⟩⟩⟩⟩⟩⟩⟩⟩⟩⟩⟩⟩
theorem gt_2_ok : ∀ w ∈ gt_2, (w.onTables && w.keeps) = true := by decide +kernel
def gt_3 : List Cond := [(Jvm.Cond.instanceMethod ({ cls := "PageLayout$Sheet", name := "<init>", desc := "()V" } : Jvm.MethodName)), (Jvm.Cond.code ({ cls := "PageLayout$Sheet", name := "<init>", desc := "()V" } : Jvm.MethodName) prog_6_method_1_code (1 : Nat) (Option.none : Option Jvm.ClassFile.FieldType)), (Jvm.Cond.methodLink "PageLayout$Sheet" (1 : Nat) ({ cls := "java/lang/Object", name := "<init>", desc := "()V" } : Jvm.MethodName)), (Jvm.Cond.fieldLink "PageLayout$Sheet" (7 : Nat) "PageLayout$Sheet" "wide" "I"), (Jvm.Cond.fieldLink "PageLayout$Lines" (79 : Nat) "PageLayout$Sheet" "wide" "I"), (Jvm.Cond.fieldLink "PageLayout" (122 : Nat) "PageLayout$Sheet" "wide" "I"), (Jvm.Cond.fieldLink "PageLayout$Sheet" (13 : Nat) "PageLayout$Sheet" "high" "I"), (Jvm.Cond.fieldLink "PageLayout$Pages" (66 : Nat) "PageLayout$Sheet" "high" "I"), (Jvm.Cond.fieldLink "PageLayout" (125 : Nat) "PageLayout$Sheet" "high" "I"), (Jvm.Cond.fieldLink "PageLayout$Sheet" (16 : Nat) "PageLayout$Sheet" "step" "I"), (Jvm.Cond.fieldLink "PageLayout$Lines" (128 : Nat) "PageLayout$Sheet" "step" "I"), (Jvm.Cond.fieldLink "PageLayout$Ruler" (66 : Nat) "PageLayout$Sheet" "step" "I"), (Jvm.Cond.fieldLink "PageLayout" (128 : Nat) "PageLayout$Sheet" "step" "I"), (Jvm.Cond.lays "PageLayout$Sheet" "PageLayout$Sheet" "wide" "I"), (Jvm.Cond.lays "PageLayout$Sheet" "PageLayout$Sheet" "high" "I"), (Jvm.Cond.lays "PageLayout$Sheet" "PageLayout$Sheet" "step" "I"), (Jvm.Cond.classLink "PageLayout" (23 : Nat) "PageLayout$Lines"), (Jvm.Cond.instantiable "PageLayout$Lines" (6 : Nat)), (Jvm.Cond.methodLink "PageLayout" (25 : Nat) ({ cls := "PageLayout$Lines", name := "<init>", desc := "(LPageLayout$Text;LPageLayout$Sheet;)V" } : Jvm.MethodName)), (Jvm.Cond.instanceMethod ({ cls := "PageLayout$Lines", name := "<init>", desc := "(LPageLayout$Text;LPageLayout$Sheet;)V" } : Jvm.MethodName)), (Jvm.Cond.code ({ cls := "PageLayout$Lines", name := "<init>", desc := "(LPageLayout$Text;LPageLayout$Sheet;)V" } : Jvm.MethodName) prog_2_method_1_code (3 : Nat) (Option.none : Option Jvm.ClassFile.FieldType)), (Jvm.Cond.methodLink "PageLayout$Lines" (3 : Nat) ({ cls := "java/lang/Object", name := "<init>", desc := "()V" } : Jvm.MethodName)), (Jvm.Cond.classLink "PageLayout$Lines" (9 : Nat) "[[I"), (Jvm.Cond.classLink "PageLayout$Lines" (27 : Nat) "PageLayout$Ruler"), (Jvm.Cond.instantiable "PageLayout$Ruler" (7 : Nat)), (Jvm.Cond.methodLink "PageLayout$Lines" (29 : Nat) ({ cls := "PageLayout$Ruler", name := "<init>", desc := "(LPageLayout$Text;LPageLayout$Sheet;)V" } : Jvm.MethodName)), (Jvm.Cond.instanceMethod ({ cls := "PageLayout$Ruler", name := "<init>", desc := "(LPageLayout$Text;LPageLayout$Sheet;)V" } : Jvm.MethodName)), (Jvm.Cond.code ({ cls := "PageLayout$Ruler", name := "<init>", desc := "(LPageLayout$Text;LPageLayout$Sheet;)V" } : Jvm.MethodName) prog_5_method_1_code (3 : Nat) (Option.none : Option Jvm.ClassFile.FieldType)), (Jvm.Cond.methodLink "PageLayout$Ruler" (3 : Nat) ({ cls := "java/lang/Object", name := "<init>", desc := "()V" } : Jvm.MethodName)), (Jvm.Cond.fieldLink "PageLayout$Ruler" (9 : Nat) "PageLayout$Ruler" "text" "LPageLayout$Text;"), (Jvm.Cond.fieldLink "PageLayout$Ruler" (15 : Nat) "PageLayout$Ruler" "sheet" "LPageLayout$Sheet;"), (Jvm.Cond.fieldLink "PageLayout$Ruler" (19 : Nat) "PageLayout$Ruler" "paragraph" "LPageLayout$Paragraph;"), (Jvm.Cond.fieldLink "PageLayout$Ruler" (23 : Nat) "PageLayout$Ruler" "hasTab" "Z"), (Jvm.Cond.fieldLink "PageLayout$Ruler" (63 : Nat) "PageLayout$Ruler" "from" "I"), (Jvm.Cond.fieldLink "PageLayout$Ruler" (37 : Nat) "PageLayout$Ruler" "widths" "I"), (Jvm.Cond.fieldLink "PageLayout$Ruler" (53 : Nat) "PageLayout$Ruler" "solidWidths" "I"), (Jvm.Cond.laysFinal "PageLayout$Ruler" "PageLayout$Ruler" "text" "LPageLayout$Text;"), (Jvm.Cond.laysFinal "PageLayout$Ruler" "PageLayout$Ruler" "sheet" "LPageLayout$Sheet;"), (Jvm.Cond.lays "PageLayout$Ruler" "PageLayout$Ruler" "paragraph" "LPageLayout$Paragraph;"), (Jvm.Cond.lays "PageLayout$Ruler" "PageLayout$Ruler" "hasTab" "Z")]
theorem gt_3_in : ∀ w ∈ gt_3, w ∈ lw_tbl := List.forall_mem_cons.mpr ⟨List.mem_of_getElem? (i := 138) (by decide +kernel), List.forall_mem_cons.mpr ⟨List.mem_of_getElem? (i := 139) (by decide +kernel), List.forall_mem_cons.mpr ⟨List.mem_of_getElem? (i := 140) (by decide +kernel), List.forall_mem_cons.mpr ⟨List.mem_of_getElem? (i := 141) (by decide +kernel), List.forall_mem_cons.mpr ⟨List.mem_of_getElem? (i := 142) (by decide +kernel), List.forall_mem_cons.mpr ⟨List.mem_of_getElem? (i := 143) (by decide +kernel), List.forall_mem_cons.mpr ⟨List.mem_of_getElem? (i := 144) (by decide +kernel), List.forall_mem_cons.mpr ⟨List.mem_of_getElem? (i := 145) (by decide +kernel), List.forall_mem_cons.mpr ⟨List.mem_of_getElem? (i := 146) (by decide +kernel), List.forall_mem_cons.mpr ⟨List.mem_of_getElem? (i := 147) (by decide +kernel), List.forall_mem_cons.mpr ⟨List.mem_of_getElem? (i := 148) (by decide +kernel), List.forall_mem_cons.mpr ⟨List.mem_of_getElem? (i := 149) (by decide +kernel), List.forall_mem_cons.mpr ⟨List.mem_of_getElem? (i := 150) (by decide +kernel), List.forall_mem_cons.mpr ⟨List.mem_of_getElem? (i := 151) (by decide +kernel), List.forall_mem_cons.mpr ⟨List.mem_of_getElem? (i := 153) (by decide +kernel), List.forall_mem_cons.mpr ⟨List.mem_of_getElem? (i := 155) (by decide +kernel), List.forall_mem_cons.mpr ⟨List.mem_of_getElem? (i := 158) (by decide +kernel), List.forall_mem_cons.mpr ⟨List.mem_of_getElem? (i := 159) (by decide +kernel), List.forall_mem_cons.mpr ⟨List.mem_of_getElem? (i := 160) (by decide +kernel), List.forall_mem_cons.mpr ⟨List.mem_of_getElem? (i := 161) (by decide +kernel), List.forall_mem_cons.mpr ⟨List.mem_of_getElem? (i := 162) (by decide +kernel), List.forall_mem_cons.mpr ⟨List.mem_of_getElem? (i := 163) (by decide +kernel), List.forall_mem_cons.mpr ⟨List.mem_of_getElem? (i := 164) (by decide +kernel), List.forall_mem_cons.mpr ⟨List.mem_of_getElem? (i := 166) (by decide +kernel), List.forall_mem_cons.mpr ⟨List.mem_of_getElem? (i := 167) (by decide +kernel), List.forall_mem_cons.mpr ⟨List.mem_of_getElem? (i := 168) (by decide +kernel), List.forall_mem_cons.mpr ⟨List.mem_of_getElem? (i := 169) (by decide +kernel), List.forall_mem_cons.mpr ⟨List.mem_of_getElem? (i := 170) (by decide +kernel), List.forall_mem_cons.mpr ⟨List.mem_of_getElem? (i := 171) (by decide +kernel), List.forall_mem_cons.mpr ⟨List.mem_of_getElem? (i := 172) (by decide +kernel), List.forall_mem_cons.mpr ⟨List.mem_of_getElem? (i := 173) (by decide +kernel), List.forall_mem_cons.mpr ⟨List.mem_of_getElem? (i := 174) (by decide +kernel), List.forall_mem_cons.mpr ⟨List.mem_of_getElem? (i := 175) (by decide +kernel), List.forall_mem_cons.mpr ⟨List.mem_of_getElem? (i := 176) (by decide +kernel), List.forall_mem_cons.mpr ⟨List.mem_of_getElem? (i := 177) (by decide +kernel), List.forall_mem_cons.mpr ⟨List.mem_of_getElem? (i := 178) (by decide +kernel), List.forall_mem_cons.mpr ⟨List.mem_of_getElem? (i := 179) (by decide +kernel), List.forall_mem_cons.mpr ⟨List.mem_of_getElem? (i := 181) (by decide +kernel), List.forall_mem_cons.mpr ⟨List.mem_of_getElem? (i := 183) (by decide +kernel), List.forall_mem_cons.mpr ⟨List.mem_of_getElem? (i := 185) (by decide +kernel), fun _ h => absurd h List.not_mem_nil⟩⟩⟩⟩⟩⟩⟩⟩⟩⟩⟩⟩⟩⟩⟩⟩⟩⟩⟩⟩⟩⟩⟩⟩⟩⟩⟩⟩⟩⟩⟩⟩⟩⟩⟩⟩⟩⟩⟩⟩
theorem gt_3_ok : ∀ w ∈ gt_3, (w.onTables && w.keeps) = true := by decide +kernel
def gt_4 : List Cond := [(Jvm.Cond.lays "PageLayout$Ruler" "PageLayout$Ruler" "from" "I"), (Jvm.Cond.lays "PageLayout$Ruler" "PageLayout$Ruler" "widths" "I"), (Jvm.Cond.lays "PageLayout$Ruler" "PageLayout$Ruler" "solidWidths" "I"), (Jvm.Cond.fieldLink "PageLayout$Lines" (11 : Nat) "PageLayout$Lines" "told" "[[I"), (Jvm.Cond.fieldLink "PageLayout$Pages" (49 : Nat) "PageLayout$Lines" "told" "[[I"), (Jvm.Cond.fieldLink "PageLayout" (145 : Nat) "PageLayout$Lines" "told" "[[I"), (Jvm.Cond.fieldLink "PageLayout$Lines" (16 : Nat) "PageLayout$Lines" "place" "[[I"), (Jvm.Cond.fieldLink "PageLayout" (151 : Nat) "PageLayout$Lines" "place" "[[I"), (Jvm.Cond.fieldLink "PageLayout$Lines" (36 : Nat) "PageLayout$Lines" "number" "I"), (Jvm.Cond.fieldLink "PageLayout$Pages" (32 : Nat) "PageLayout$Lines" "number" "I"), (Jvm.Cond.fieldLink "PageLayout" (140 : Nat) "PageLayout$Lines" "number" "I"), (Jvm.Cond.fieldLink "PageLayout$Lines" (19 : Nat) "PageLayout$Lines" "text" "LPageLayout$Text;"), (Jvm.Cond.fieldLink "PageLayout$Lines" (23 : Nat) "PageLayout$Lines" "sheet" "LPageLayout$Sheet;"), (Jvm.Cond.fieldLink "PageLayout$Lines" (32 : Nat) "PageLayout$Lines" "ruler" "LPageLayout$Ruler;"), (Jvm.Cond.laysFinal "PageLayout$Lines" "PageLayout$Lines" "told" "[[I"), (Jvm.Cond.laysFinal "PageLayout$Lines" "PageLayout$Lines" "place" "[[I"), (Jvm.Cond.lays "PageLayout$Lines" "PageLayout$Lines" "number" "I"), (Jvm.Cond.laysFinal "PageLayout$Lines" "PageLayout$Lines" "text" "LPageLayout$Text;"), (Jvm.Cond.laysFinal "PageLayout$Lines" "PageLayout$Lines" "sheet" "LPageLayout$Sheet;"), (Jvm.Cond.laysFinal "PageLayout$Lines" "PageLayout$Lines" "ruler" "LPageLayout$Ruler;"), (Jvm.Cond.classLink "PageLayout" (32 : Nat) "PageLayout$Pages"), (Jvm.Cond.instantiable "PageLayout$Pages" (5 : Nat)), (Jvm.Cond.methodLink "PageLayout" (34 : Nat) ({ cls := "PageLayout$Pages", name := "<init>", desc := "(LPageLayout$Text;LPageLayout$Sheet;LPageLayout$Lines;)V" } : Jvm.MethodName)), (Jvm.Cond.instanceMethod ({ cls := "PageLayout$Pages", name := "<init>", desc := "(LPageLayout$Text;LPageLayout$Sheet;LPageLayout$Lines;)V" } : Jvm.MethodName)), (Jvm.Cond.code ({ cls := "PageLayout$Pages", name := "<init>", desc := "(LPageLayout$Text;LPageLayout$Sheet;LPageLayout$Lines;)V" } : Jvm.MethodName) prog_3_method_1_code (4 : Nat) (Option.none : Option Jvm.ClassFile.FieldType)), (Jvm.Cond.methodLink "PageLayout$Pages" (3 : Nat) ({ cls := "java/lang/Object", name := "<init>", desc := "()V" } : Jvm.MethodName)), (Jvm.Cond.classLink "PageLayout$Pages" (9 : Nat) "[[I"), (Jvm.Cond.fieldLink "PageLayout$Pages" (11 : Nat) "PageLayout$Pages" "told" "[[I"), (Jvm.Cond.fieldLink "PageLayout" (156 : Nat) "PageLayout$Pages" "told" "[[I"), (Jvm.Cond.fieldLink "PageLayout$Pages" (28 : Nat) "PageLayout$Pages" "number" "I"), (Jvm.Cond.fieldLink "PageLayout" (137 : Nat) "PageLayout$Pages" "number" "I"), (Jvm.Cond.fieldLink "PageLayout$Pages" (16 : Nat) "PageLayout$Pages" "text" "LPageLayout$Text;"), (Jvm.Cond.fieldLink "PageLayout$Pages" (20 : Nat) "PageLayout$Pages" "sheet" "LPageLayout$Sheet;"), (Jvm.Cond.fieldLink "PageLayout$Pages" (24 : Nat) "PageLayout$Pages" "lines" "LPageLayout$Lines;"), (Jvm.Cond.laysFinal "PageLayout$Pages" "PageLayout$Pages" "told" "[[I"), (Jvm.Cond.lays "PageLayout$Pages" "PageLayout$Pages" "number" "I"), (Jvm.Cond.laysFinal "PageLayout$Pages" "PageLayout$Pages" "text" "LPageLayout$Text;"), (Jvm.Cond.laysFinal "PageLayout$Pages" "PageLayout$Pages" "sheet" "LPageLayout$Sheet;"), (Jvm.Cond.laysFinal "PageLayout$Pages" "PageLayout$Pages" "lines" "LPageLayout$Lines;"), (Jvm.Cond.fieldLink "PageLayout" (12 : Nat) "PageLayout" "text" "LPageLayout$Text;")]
theorem gt_4_in : ∀ w ∈ gt_4, w ∈ lw_tbl := List.forall_mem_cons.mpr ⟨List.mem_of_getElem? (i := 187) (by decide +kernel), List.forall_mem_cons.mpr ⟨List.mem_of_getElem? (i := 189) (by decide +kernel), List.forall_mem_cons.mpr ⟨List.mem_of_getElem? (i := 191) (by decide +kernel), List.forall_mem_cons.mpr ⟨List.mem_of_getElem? (i := 194) (by decide +kernel), List.forall_mem_cons.mpr ⟨List.mem_of_getElem? (i := 195) (by decide +kernel), List.forall_mem_cons.mpr ⟨List.mem_of_getElem? (i := 196) (by decide +kernel), List.forall_mem_cons.mpr ⟨List.mem_of_getElem? (i := 197) (by decide +kernel), List.forall_mem_cons.mpr ⟨List.mem_of_getElem? (i := 198) (by decide +kernel), List.forall_mem_cons.mpr ⟨List.mem_of_getElem? (i := 199) (by decide +kernel), List.forall_mem_cons.mpr ⟨List.mem_of_getElem? (i := 200) (by decide +kernel), List.forall_mem_cons.mpr ⟨List.mem_of_getElem? (i := 201) (by decide +kernel), List.forall_mem_cons.mpr ⟨List.mem_of_getElem? (i := 202) (by decide +kernel), List.forall_mem_cons.mpr ⟨List.mem_of_getElem? (i := 203) (by decide +kernel), List.forall_mem_cons.mpr ⟨List.mem_of_getElem? (i := 204) (by decide +kernel), List.forall_mem_cons.mpr ⟨List.mem_of_getElem? (i := 205) (by decide +kernel), List.forall_mem_cons.mpr ⟨List.mem_of_getElem? (i := 207) (by decide +kernel), List.forall_mem_cons.mpr ⟨List.mem_of_getElem? (i := 209) (by decide +kernel), List.forall_mem_cons.mpr ⟨List.mem_of_getElem? (i := 211) (by decide +kernel), List.forall_mem_cons.mpr ⟨List.mem_of_getElem? (i := 213) (by decide +kernel), List.forall_mem_cons.mpr ⟨List.mem_of_getElem? (i := 215) (by decide +kernel), List.forall_mem_cons.mpr ⟨List.mem_of_getElem? (i := 218) (by decide +kernel), List.forall_mem_cons.mpr ⟨List.mem_of_getElem? (i := 219) (by decide +kernel), List.forall_mem_cons.mpr ⟨List.mem_of_getElem? (i := 220) (by decide +kernel), List.forall_mem_cons.mpr ⟨List.mem_of_getElem? (i := 221) (by decide +kernel), List.forall_mem_cons.mpr ⟨List.mem_of_getElem? (i := 222) (by decide +kernel), List.forall_mem_cons.mpr ⟨List.mem_of_getElem? (i := 223) (by decide +kernel), List.forall_mem_cons.mpr ⟨List.mem_of_getElem? (i := 224) (by decide +kernel), List.forall_mem_cons.mpr ⟨List.mem_of_getElem? (i := 225) (by decide +kernel), List.forall_mem_cons.mpr ⟨List.mem_of_getElem? (i := 226) (by decide +kernel), List.forall_mem_cons.mpr ⟨List.mem_of_getElem? (i := 227) (by decide +kernel), List.forall_mem_cons.mpr ⟨List.mem_of_getElem? (i := 228) (by decide +kernel), List.forall_mem_cons.mpr ⟨List.mem_of_getElem? (i := 229) (by decide +kernel), List.forall_mem_cons.mpr ⟨List.mem_of_getElem? (i := 230) (by decide +kernel), List.forall_mem_cons.mpr ⟨List.mem_of_getElem? (i := 231) (by decide +kernel), List.forall_mem_cons.mpr ⟨List.mem_of_getElem? (i := 232) (by decide +kernel), List.forall_mem_cons.mpr ⟨List.mem_of_getElem? (i := 234) (by decide +kernel), List.forall_mem_cons.mpr ⟨List.mem_of_getElem? (i := 236) (by decide +kernel), List.forall_mem_cons.mpr ⟨List.mem_of_getElem? (i := 238) (by decide +kernel), List.forall_mem_cons.mpr ⟨List.mem_of_getElem? (i := 240) (by decide +kernel), List.forall_mem_cons.mpr ⟨List.mem_of_getElem? (i := 243) (by decide +kernel), fun _ h => absurd h List.not_mem_nil⟩⟩⟩⟩⟩⟩⟩⟩⟩⟩⟩⟩⟩⟩⟩⟩⟩⟩⟩⟩⟩⟩⟩⟩⟩⟩⟩⟩⟩⟩⟩⟩⟩⟩⟩⟩⟩⟩⟩⟩
theorem gt_4_ok : ∀ w ∈ gt_4, (w.onTables && w.keeps) = true := by decide +kernel
def gt_5 : List Cond := [(Jvm.Cond.fieldLink "PageLayout" (19 : Nat) "PageLayout" "sheet" "LPageLayout$Sheet;"), (Jvm.Cond.fieldLink "PageLayout" (28 : Nat) "PageLayout" "lines" "LPageLayout$Lines;"), (Jvm.Cond.fieldLink "PageLayout" (37 : Nat) "PageLayout" "pages" "LPageLayout$Pages;"), (Jvm.Cond.fieldLink "PageLayout" (41 : Nat) "PageLayout" "laid" "Z"), (Jvm.Cond.laysFinal "PageLayout" "PageLayout" "text" "LPageLayout$Text;"), (Jvm.Cond.laysFinal "PageLayout" "PageLayout" "sheet" "LPageLayout$Sheet;"), (Jvm.Cond.laysFinal "PageLayout" "PageLayout" "lines" "LPageLayout$Lines;"), (Jvm.Cond.laysFinal "PageLayout" "PageLayout" "pages" "LPageLayout$Pages;"), (Jvm.Cond.lays "PageLayout" "PageLayout" "laid" "Z"), (Jvm.Cond.methodLink "PageLayoutLaw" (50 : Nat) ({ cls := "PageLayout", name := "clear", desc := "()V" } : Jvm.MethodName)), (Jvm.Cond.instanceMethod ({ cls := "PageLayout", name := "clear", desc := "()V" } : Jvm.MethodName)), (Jvm.Cond.selects "PageLayout" ({ cls := "PageLayout", name := "clear", desc := "()V" } : Jvm.MethodName) ({ cls := "PageLayout", name := "clear", desc := "()V" } : Jvm.MethodName)), (Jvm.Cond.code ({ cls := "PageLayout", name := "clear", desc := "()V" } : Jvm.MethodName) prog_1_method_2_code (1 : Nat) (Option.none : Option Jvm.ClassFile.FieldType)), (Jvm.Cond.methodLink "PageLayout" (52 : Nat) ({ cls := "PageLayout", name := "forgetLayout", desc := "()V" } : Jvm.MethodName)), (Jvm.Cond.instanceMethod ({ cls := "PageLayout", name := "forgetLayout", desc := "()V" } : Jvm.MethodName)), (Jvm.Cond.code ({ cls := "PageLayout", name := "forgetLayout", desc := "()V" } : Jvm.MethodName) prog_1_method_14_code (1 : Nat) (Option.none : Option Jvm.ClassFile.FieldType)), (Jvm.Cond.methodLink "PageLayoutLaw" (77 : Nat) ({ cls := "PageLayout", name := "lay", desc := "()I" } : Jvm.MethodName)), (Jvm.Cond.instanceMethod ({ cls := "PageLayout", name := "lay", desc := "()I" } : Jvm.MethodName)), (Jvm.Cond.selects "PageLayout" ({ cls := "PageLayout", name := "lay", desc := "()I" } : Jvm.MethodName) ({ cls := "PageLayout", name := "lay", desc := "()I" } : Jvm.MethodName)), (Jvm.Cond.code ({ cls := "PageLayout", name := "lay", desc := "()I" } : Jvm.MethodName) prog_1_method_8_code (1 : Nat) (Option.some Jvm.ClassFile.FieldType.int)), (Jvm.Cond.methodLink "PageLayout" (131 : Nat) ({ cls := "PageLayout$Lines", name := "layAll", desc := "()V" } : Jvm.MethodName)), (Jvm.Cond.instanceMethod ({ cls := "PageLayout$Lines", name := "layAll", desc := "()V" } : Jvm.MethodName)), (Jvm.Cond.selects "PageLayout$Lines" ({ cls := "PageLayout$Lines", name := "layAll", desc := "()V" } : Jvm.MethodName) ({ cls := "PageLayout$Lines", name := "layAll", desc := "()V" } : Jvm.MethodName)), (Jvm.Cond.code ({ cls := "PageLayout$Lines", name := "layAll", desc := "()V" } : Jvm.MethodName) prog_2_method_2_code (2 : Nat) (Option.none : Option Jvm.ClassFile.FieldType)), (Jvm.Cond.methodLink "PageLayout$Lines" (45 : Nat) ({ cls := "PageLayout$Lines", name := "layLinesOf", desc := "(I)V" } : Jvm.MethodName)), (Jvm.Cond.instanceMethod ({ cls := "PageLayout$Lines", name := "layLinesOf", desc := "(I)V" } : Jvm.MethodName)), (Jvm.Cond.code ({ cls := "PageLayout$Lines", name := "layLinesOf", desc := "(I)V" } : Jvm.MethodName) prog_2_method_3_code (7 : Nat) (Option.none : Option Jvm.ClassFile.FieldType)), (Jvm.Cond.methodLink "PageLayout$Lines" (59 : Nat) ({ cls := "java/lang/Math", name := "max", desc := "(II)I" } : Jvm.MethodName)), (Jvm.Cond.static ({ cls := "java/lang/Math", name := "max", desc := "(II)I" } : Jvm.MethodName)), (Jvm.Cond.code ({ cls := "java/lang/Math", name := "max", desc := "(II)I" } : Jvm.MethodName) prog_13_method_65_code (2 : Nat) (Option.some Jvm.ClassFile.FieldType.int)), (Jvm.Cond.methodLink "PageLayout$Lines" (71 : Nat) ({ cls := "PageLayout$Lines", name := "addLine", desc := "(IIII)V" } : Jvm.MethodName)), (Jvm.Cond.instanceMethod ({ cls := "PageLayout$Lines", name := "addLine", desc := "(IIII)V" } : Jvm.MethodName)), (Jvm.Cond.code ({ cls := "PageLayout$Lines", name := "addLine", desc := "(IIII)V" } : Jvm.MethodName) prog_2_method_5_code (7 : Nat) (Option.none : Option Jvm.ClassFile.FieldType)), (Jvm.Cond.methodLink "PageLayout$Lines" (107 : Nat) ({ cls := "PageLayout$Text", name := "solidBehind", desc := "(II)I" } : Jvm.MethodName)), (Jvm.Cond.instanceMethod ({ cls := "PageLayout$Text", name := "solidBehind", desc := "(II)I" } : Jvm.MethodName)), (Jvm.Cond.selects "PageLayout$Text" ({ cls := "PageLayout$Text", name := "solidBehind", desc := "(II)I" } : Jvm.MethodName) ({ cls := "PageLayout$Text", name := "solidBehind", desc := "(II)I" } : Jvm.MethodName)), (Jvm.Cond.code ({ cls := "PageLayout$Text", name := "solidBehind", desc := "(II)I" } : Jvm.MethodName) prog_7_method_7_code (4 : Nat) (Option.some Jvm.ClassFile.FieldType.int)), (Jvm.Cond.methodLink "PageLayout$Text" (42 : Nat) ({ cls := "PageLayout$Text", name := "endsLine", desc := "(I)Z" } : Jvm.MethodName)), (Jvm.Cond.instanceMethod ({ cls := "PageLayout$Text", name := "endsLine", desc := "(I)Z" } : Jvm.MethodName)), (Jvm.Cond.selects "PageLayout$Text" ({ cls := "PageLayout$Text", name := "endsLine", desc := "(I)Z" } : Jvm.MethodName) ({ cls := "PageLayout$Text", name := "endsLine", desc := "(I)Z" } : Jvm.MethodName))]
theorem gt_5_in : ∀ w ∈ gt_5, w ∈ lw_tbl := List.forall_mem_cons.mpr ⟨List.mem_of_getElem? (i := 244) (by decide +kernel), List.forall_mem_cons.mpr ⟨List.mem_of_getElem? (i := 245) (by decide +kernel), List.forall_mem_cons.mpr ⟨List.mem_of_getElem? (i := 246) (by decide +kernel), List.forall_mem_cons.mpr ⟨List.mem_of_getElem? (i := 247) (by decide +kernel), List.forall_mem_cons.mpr ⟨List.mem_of_getElem? (i := 248) (by decide +kernel), List.forall_mem_cons.mpr ⟨List.mem_of_getElem? (i := 250) (by decide +kernel), List.forall_mem_cons.mpr ⟨List.mem_of_getElem? (i := 252) (by decide +kernel), List.forall_mem_cons.mpr ⟨List.mem_of_getElem? (i := 254) (by decide +kernel), List.forall_mem_cons.mpr ⟨List.mem_of_getElem? (i := 256) (by decide +kernel), List.forall_mem_cons.mpr ⟨List.mem_of_getElem? (i := 259) (by decide +kernel), List.forall_mem_cons.mpr ⟨List.mem_of_getElem? (i := 260) (by decide +kernel), List.forall_mem_cons.mpr ⟨List.mem_of_getElem? (i := 261) (by decide +kernel), List.forall_mem_cons.mpr ⟨List.mem_of_getElem? (i := 262) (by decide +kernel), List.forall_mem_cons.mpr ⟨List.mem_of_getElem? (i := 263) (by decide +kernel), List.forall_mem_cons.mpr ⟨List.mem_of_getElem? (i := 265) (by decide +kernel), List.forall_mem_cons.mpr ⟨List.mem_of_getElem? (i := 266) (by decide +kernel), List.forall_mem_cons.mpr ⟨List.mem_of_getElem? (i := 267) (by decide +kernel), List.forall_mem_cons.mpr ⟨List.mem_of_getElem? (i := 268) (by decide +kernel), List.forall_mem_cons.mpr ⟨List.mem_of_getElem? (i := 269) (by decide +kernel), List.forall_mem_cons.mpr ⟨List.mem_of_getElem? (i := 270) (by decide +kernel), List.forall_mem_cons.mpr ⟨List.mem_of_getElem? (i := 271) (by decide +kernel), List.forall_mem_cons.mpr ⟨List.mem_of_getElem? (i := 272) (by decide +kernel), List.forall_mem_cons.mpr ⟨List.mem_of_getElem? (i := 273) (by decide +kernel), List.forall_mem_cons.mpr ⟨List.mem_of_getElem? (i := 274) (by decide +kernel), List.forall_mem_cons.mpr ⟨List.mem_of_getElem? (i := 275) (by decide +kernel), List.forall_mem_cons.mpr ⟨List.mem_of_getElem? (i := 277) (by decide +kernel), List.forall_mem_cons.mpr ⟨List.mem_of_getElem? (i := 278) (by decide +kernel), List.forall_mem_cons.mpr ⟨List.mem_of_getElem? (i := 279) (by decide +kernel), List.forall_mem_cons.mpr ⟨List.mem_of_getElem? (i := 280) (by decide +kernel), List.forall_mem_cons.mpr ⟨List.mem_of_getElem? (i := 281) (by decide +kernel), List.forall_mem_cons.mpr ⟨List.mem_of_getElem? (i := 282) (by decide +kernel), List.forall_mem_cons.mpr ⟨List.mem_of_getElem? (i := 284) (by decide +kernel), List.forall_mem_cons.mpr ⟨List.mem_of_getElem? (i := 285) (by decide +kernel), List.forall_mem_cons.mpr ⟨List.mem_of_getElem? (i := 286) (by decide +kernel), List.forall_mem_cons.mpr ⟨List.mem_of_getElem? (i := 287) (by decide +kernel), List.forall_mem_cons.mpr ⟨List.mem_of_getElem? (i := 288) (by decide +kernel), List.forall_mem_cons.mpr ⟨List.mem_of_getElem? (i := 289) (by decide +kernel), List.forall_mem_cons.mpr ⟨List.mem_of_getElem? (i := 290) (by decide +kernel), List.forall_mem_cons.mpr ⟨List.mem_of_getElem? (i := 291) (by decide +kernel), List.forall_mem_cons.mpr ⟨List.mem_of_getElem? (i := 292) (by decide +kernel), fun _ h => absurd h List.not_mem_nil⟩⟩⟩⟩⟩⟩⟩⟩⟩⟩⟩⟩⟩⟩⟩⟩⟩⟩⟩⟩⟩⟩⟩⟩⟩⟩⟩⟩⟩⟩⟩⟩⟩⟩⟩⟩⟩⟩⟩⟩
theorem gt_5_ok : ∀ w ∈ gt_5, (w.onTables && w.keeps) = true := by decide +kernel
def gt_6 : List Cond := [(Jvm.Cond.code ({ cls := "PageLayout$Text", name := "endsLine", desc := "(I)Z" } : Jvm.MethodName) prog_7_method_4_code (2 : Nat) (Option.some Jvm.ClassFile.FieldType.boolean)), (Jvm.Cond.methodLink "PageLayout$Lines" (110 : Nat) ({ cls := "PageLayout$Lines", name := "placeSigns", desc := "(LPageLayout$Paragraph;III)V" } : Jvm.MethodName)), (Jvm.Cond.instanceMethod ({ cls := "PageLayout$Lines", name := "placeSigns", desc := "(LPageLayout$Paragraph;III)V" } : Jvm.MethodName)), (Jvm.Cond.code ({ cls := "PageLayout$Lines", name := "placeSigns", desc := "(LPageLayout$Paragraph;III)V" } : Jvm.MethodName) prog_2_method_6_code (9 : Nat) (Option.none : Option Jvm.ClassFile.FieldType)), (Jvm.Cond.methodLink "PageLayout$Lines" (124 : Nat) ({ cls := "PageLayout$Lines", name := "widthsBehindTab", desc := "(III)I" } : Jvm.MethodName)), (Jvm.Cond.instanceMethod ({ cls := "PageLayout$Lines", name := "widthsBehindTab", desc := "(III)I" } : Jvm.MethodName)), (Jvm.Cond.code ({ cls := "PageLayout$Lines", name := "widthsBehindTab", desc := "(III)I" } : Jvm.MethodName) prog_2_method_7_code (6 : Nat) (Option.some Jvm.ClassFile.FieldType.int)), (Jvm.Cond.methodLink "PageLayout$Lines" (134 : Nat) ({ cls := "PageLayout$Text", name := "widthWithin", desc := "(IZ)I" } : Jvm.MethodName)), (Jvm.Cond.instanceMethod ({ cls := "PageLayout$Text", name := "widthWithin", desc := "(IZ)I" } : Jvm.MethodName)), (Jvm.Cond.selects "PageLayout$Text" ({ cls := "PageLayout$Text", name := "widthWithin", desc := "(IZ)I" } : Jvm.MethodName) ({ cls := "PageLayout$Text", name := "widthWithin", desc := "(IZ)I" } : Jvm.MethodName)), (Jvm.Cond.code ({ cls := "PageLayout$Text", name := "widthWithin", desc := "(IZ)I" } : Jvm.MethodName) prog_7_method_6_code (3 : Nat) (Option.some Jvm.ClassFile.FieldType.int)), (Jvm.Cond.methodLink "PageLayout$Lines" (131 : Nat) ({ cls := "PageLayout$Paragraph", name := "tabWidth", desc := "(III)I" } : Jvm.MethodName)), (Jvm.Cond.instanceMethod ({ cls := "PageLayout$Paragraph", name := "tabWidth", desc := "(III)I" } : Jvm.MethodName)), (Jvm.Cond.selects "PageLayout$Paragraph" ({ cls := "PageLayout$Paragraph", name := "tabWidth", desc := "(III)I" } : Jvm.MethodName) ({ cls := "PageLayout$Paragraph", name := "tabWidth", desc := "(III)I" } : Jvm.MethodName)), (Jvm.Cond.code ({ cls := "PageLayout$Paragraph", name := "tabWidth", desc := "(III)I" } : Jvm.MethodName) prog_4_method_5_code (8 : Nat) (Option.some Jvm.ClassFile.FieldType.int)), (Jvm.Cond.methodLink "PageLayout$Paragraph" (37 : Nat) ({ cls := "PageLayout$Paragraph", name := "ownStopAbove", desc := "(I)I" } : Jvm.MethodName)), (Jvm.Cond.instanceMethod ({ cls := "PageLayout$Paragraph", name := "ownStopAbove", desc := "(I)I" } : Jvm.MethodName)), (Jvm.Cond.code ({ cls := "PageLayout$Paragraph", name := "ownStopAbove", desc := "(I)I" } : Jvm.MethodName) prog_4_method_6_code (3 : Nat) (Option.some Jvm.ClassFile.FieldType.int)), (Jvm.Cond.methodLink "PageLayout$Paragraph" (41 : Nat) ({ cls := "PageLayout$Paragraph", name := "lastStop", desc := "()I" } : Jvm.MethodName)), (Jvm.Cond.instanceMethod ({ cls := "PageLayout$Paragraph", name := "lastStop", desc := "()I" } : Jvm.MethodName)), (Jvm.Cond.selects "PageLayout$Paragraph" ({ cls := "PageLayout$Paragraph", name := "lastStop", desc := "()I" } : Jvm.MethodName) ({ cls := "PageLayout$Paragraph", name := "lastStop", desc := "()I" } : Jvm.MethodName)), (Jvm.Cond.code ({ cls := "PageLayout$Paragraph", name := "lastStop", desc := "()I" } : Jvm.MethodName) prog_4_method_3_code (1 : Nat) (Option.some Jvm.ClassFile.FieldType.int)), (Jvm.Cond.methodLink "PageLayout$Paragraph" (45 : Nat) ({ cls := "java/lang/Math", name := "max", desc := "(II)I" } : Jvm.MethodName)), (Jvm.Cond.methodLink "PageLayout$Paragraph" (51 : Nat) ({ cls := "PageLayout$Paragraph", name := "stepAbove", desc := "(II)I" } : Jvm.MethodName)), (Jvm.Cond.static ({ cls := "PageLayout$Paragraph", name := "stepAbove", desc := "(II)I" } : Jvm.MethodName)), (Jvm.Cond.code ({ cls := "PageLayout$Paragraph", name := "stepAbove", desc := "(II)I" } : Jvm.MethodName) prog_4_method_7_code (2 : Nat) (Option.some Jvm.ClassFile.FieldType.int)), (Jvm.Cond.methodLink "PageLayout$Lines" (114 : Nat) ({ cls := "PageLayout$Lines", name := "heightOf", desc := "(LPageLayout$Paragraph;II)I" } : Jvm.MethodName)), (Jvm.Cond.instanceMethod ({ cls := "PageLayout$Lines", name := "heightOf", desc := "(LPageLayout$Paragraph;II)I" } : Jvm.MethodName)), (Jvm.Cond.code ({ cls := "PageLayout$Lines", name := "heightOf", desc := "(LPageLayout$Paragraph;II)I" } : Jvm.MethodName) prog_2_method_8_code (6 : Nat) (Option.some Jvm.ClassFile.FieldType.int)), (Jvm.Cond.methodLink "PageLayout$Lines" (117 : Nat) ({ cls := "PageLayout$Lines", name := "align", desc := "(LPageLayout$Paragraph;II)V" } : Jvm.MethodName)), (Jvm.Cond.instanceMethod ({ cls := "PageLayout$Lines", name := "align", desc := "(LPageLayout$Paragraph;II)V" } : Jvm.MethodName)), (Jvm.Cond.code ({ cls := "PageLayout$Lines", name := "align", desc := "(LPageLayout$Paragraph;II)V" } : Jvm.MethodName) prog_2_method_9_code (9 : Nat) (Option.none : Option Jvm.ClassFile.FieldType)), (Jvm.Cond.methodLink "PageLayout$Lines" (103 : Nat) ({ cls := "PageLayout$Text", name := "endsLine", desc := "(I)Z" } : Jvm.MethodName)), (Jvm.Cond.methodLink "PageLayout$Lines" (141 : Nat) ({ cls := "PageLayout$Lines", name := "widenGaps", desc := "(III)I" } : Jvm.MethodName)), (Jvm.Cond.instanceMethod ({ cls := "PageLayout$Lines", name := "widenGaps", desc := "(III)I" } : Jvm.MethodName)), (Jvm.Cond.code ({ cls := "PageLayout$Lines", name := "widenGaps", desc := "(III)I" } : Jvm.MethodName) prog_2_method_10_code (11 : Nat) (Option.some Jvm.ClassFile.FieldType.int)), (Jvm.Cond.methodLink "PageLayout$Lines" (144 : Nat) ({ cls := "PageLayout$Lines", name := "signBehindLastTab", desc := "(II)I" } : Jvm.MethodName)), (Jvm.Cond.instanceMethod ({ cls := "PageLayout$Lines", name := "signBehindLastTab", desc := "(II)I" } : Jvm.MethodName)), (Jvm.Cond.code ({ cls := "PageLayout$Lines", name := "signBehindLastTab", desc := "(II)I" } : Jvm.MethodName) prog_2_method_11_code (4 : Nat) (Option.some Jvm.ClassFile.FieldType.int)), (Jvm.Cond.methodLink "PageLayout$Lines" (75 : Nat) ({ cls := "PageLayout$Lines", name := "lineBehind", desc := "(LPageLayout$Paragraph;II)I" } : Jvm.MethodName))]
theorem gt_6_in : ∀ w ∈ gt_6, w ∈ lw_tbl := List.forall_mem_cons.mpr ⟨List.mem_of_getElem? (i := 293) (by decide +kernel), List.forall_mem_cons.mpr ⟨List.mem_of_getElem? (i := 294) (by decide +kernel), List.forall_mem_cons.mpr ⟨List.mem_of_getElem? (i := 296) (by decide +kernel), List.forall_mem_cons.mpr ⟨List.mem_of_getElem? (i := 297) (by decide +kernel), List.forall_mem_cons.mpr ⟨List.mem_of_getElem? (i := 298) (by decide +kernel), List.forall_mem_cons.mpr ⟨List.mem_of_getElem? (i := 300) (by decide +kernel), List.forall_mem_cons.mpr ⟨List.mem_of_getElem? (i := 301) (by decide +kernel), List.forall_mem_cons.mpr ⟨List.mem_of_getElem? (i := 302) (by decide +kernel), List.forall_mem_cons.mpr ⟨List.mem_of_getElem? (i := 303) (by decide +kernel), List.forall_mem_cons.mpr ⟨List.mem_of_getElem? (i := 304) (by decide +kernel), List.forall_mem_cons.mpr ⟨List.mem_of_getElem? (i := 305) (by decide +kernel), List.forall_mem_cons.mpr ⟨List.mem_of_getElem? (i := 306) (by decide +kernel), List.forall_mem_cons.mpr ⟨List.mem_of_getElem? (i := 307) (by decide +kernel), List.forall_mem_cons.mpr ⟨List.mem_of_getElem? (i := 308) (by decide +kernel), List.forall_mem_cons.mpr ⟨List.mem_of_getElem? (i := 309) (by decide +kernel), List.forall_mem_cons.mpr ⟨List.mem_of_getElem? (i := 310) (by decide +kernel), List.forall_mem_cons.mpr ⟨List.mem_of_getElem? (i := 312) (by decide +kernel), List.forall_mem_cons.mpr ⟨List.mem_of_getElem? (i := 313) (by decide +kernel), List.forall_mem_cons.mpr ⟨List.mem_of_getElem? (i := 314) (by decide +kernel), List.forall_mem_cons.mpr ⟨List.mem_of_getElem? (i := 315) (by decide +kernel), List.forall_mem_cons.mpr ⟨List.mem_of_getElem? (i := 316) (by decide +kernel), List.forall_mem_cons.mpr ⟨List.mem_of_getElem? (i := 317) (by decide +kernel), List.forall_mem_cons.mpr ⟨List.mem_of_getElem? (i := 318) (by decide +kernel), List.forall_mem_cons.mpr ⟨List.mem_of_getElem? (i := 319) (by decide +kernel), List.forall_mem_cons.mpr ⟨List.mem_of_getElem? (i := 320) (by decide +kernel), List.forall_mem_cons.mpr ⟨List.mem_of_getElem? (i := 321) (by decide +kernel), List.forall_mem_cons.mpr ⟨List.mem_of_getElem? (i := 322) (by decide +kernel), List.forall_mem_cons.mpr ⟨List.mem_of_getElem? (i := 324) (by decide +kernel), List.forall_mem_cons.mpr ⟨List.mem_of_getElem? (i := 325) (by decide +kernel), List.forall_mem_cons.mpr ⟨List.mem_of_getElem? (i := 326) (by decide +kernel), List.forall_mem_cons.mpr ⟨List.mem_of_getElem? (i := 328) (by decide +kernel), List.forall_mem_cons.mpr ⟨List.mem_of_getElem? (i := 329) (by decide +kernel), List.forall_mem_cons.mpr ⟨List.mem_of_getElem? (i := 330) (by decide +kernel), List.forall_mem_cons.mpr ⟨List.mem_of_getElem? (i := 331) (by decide +kernel), List.forall_mem_cons.mpr ⟨List.mem_of_getElem? (i := 333) (by decide +kernel), List.forall_mem_cons.mpr ⟨List.mem_of_getElem? (i := 334) (by decide +kernel), List.forall_mem_cons.mpr ⟨List.mem_of_getElem? (i := 335) (by decide +kernel), List.forall_mem_cons.mpr ⟨List.mem_of_getElem? (i := 337) (by decide +kernel), List.forall_mem_cons.mpr ⟨List.mem_of_getElem? (i := 338) (by decide +kernel), List.forall_mem_cons.mpr ⟨List.mem_of_getElem? (i := 339) (by decide +kernel), fun _ h => absurd h List.not_mem_nil⟩⟩⟩⟩⟩⟩⟩⟩⟩⟩⟩⟩⟩⟩⟩⟩⟩⟩⟩⟩⟩⟩⟩⟩⟩⟩⟩⟩⟩⟩⟩⟩⟩⟩⟩⟩⟩⟩⟩⟩
theorem gt_6_ok : ∀ w ∈ gt_6, (w.onTables && w.keeps) = true := by decide +kernel
def gt_7 : List Cond := [(Jvm.Cond.instanceMethod ({ cls := "PageLayout$Lines", name := "lineBehind", desc := "(LPageLayout$Paragraph;II)I" } : Jvm.MethodName)), (Jvm.Cond.code ({ cls := "PageLayout$Lines", name := "lineBehind", desc := "(LPageLayout$Paragraph;II)I" } : Jvm.MethodName) prog_2_method_4_code (8 : Nat) (Option.some Jvm.ClassFile.FieldType.int)), (Jvm.Cond.methodLink "PageLayout$Lines" (84 : Nat) ({ cls := "PageLayout$Ruler", name := "begin", desc := "(LPageLayout$Paragraph;I)V" } : Jvm.MethodName)), (Jvm.Cond.instanceMethod ({ cls := "PageLayout$Ruler", name := "begin", desc := "(LPageLayout$Paragraph;I)V" } : Jvm.MethodName)), (Jvm.Cond.selects "PageLayout$Ruler" ({ cls := "PageLayout$Ruler", name := "begin", desc := "(LPageLayout$Paragraph;I)V" } : Jvm.MethodName) ({ cls := "PageLayout$Ruler", name := "begin", desc := "(LPageLayout$Paragraph;I)V" } : Jvm.MethodName)), (Jvm.Cond.code ({ cls := "PageLayout$Ruler", name := "begin", desc := "(LPageLayout$Paragraph;I)V" } : Jvm.MethodName) prog_5_method_2_code (3 : Nat) (Option.none : Option Jvm.ClassFile.FieldType)), (Jvm.Cond.methodLink "PageLayout$Ruler" (27 : Nat) ({ cls := "PageLayout$Ruler", name := "beginStretch", desc := "(I)V" } : Jvm.MethodName)), (Jvm.Cond.instanceMethod ({ cls := "PageLayout$Ruler", name := "beginStretch", desc := "(I)V" } : Jvm.MethodName)), (Jvm.Cond.code ({ cls := "PageLayout$Ruler", name := "beginStretch", desc := "(I)V" } : Jvm.MethodName) prog_5_method_6_code (2 : Nat) (Option.none : Option Jvm.ClassFile.FieldType)), (Jvm.Cond.methodLink "PageLayout$Lines" (88 : Nat) ({ cls := "PageLayout$Ruler", name := "add", desc := "(I)V" } : Jvm.MethodName)), (Jvm.Cond.instanceMethod ({ cls := "PageLayout$Ruler", name := "add", desc := "(I)V" } : Jvm.MethodName)), (Jvm.Cond.selects "PageLayout$Ruler" ({ cls := "PageLayout$Ruler", name := "add", desc := "(I)V" } : Jvm.MethodName) ({ cls := "PageLayout$Ruler", name := "add", desc := "(I)V" } : Jvm.MethodName)), (Jvm.Cond.code ({ cls := "PageLayout$Ruler", name := "add", desc := "(I)V" } : Jvm.MethodName) prog_5_method_3_code (2 : Nat) (Option.none : Option Jvm.ClassFile.FieldType)), (Jvm.Cond.methodLink "PageLayout$Ruler" (41 : Nat) ({ cls := "PageLayout$Ruler", name := "endWith", desc := "(I)I" } : Jvm.MethodName)), (Jvm.Cond.instanceMethod ({ cls := "PageLayout$Ruler", name := "endWith", desc := "(I)I" } : Jvm.MethodName)), (Jvm.Cond.code ({ cls := "PageLayout$Ruler", name := "endWith", desc := "(I)I" } : Jvm.MethodName) prog_5_method_7_code (3 : Nat) (Option.some Jvm.ClassFile.FieldType.int)), (Jvm.Cond.methodLink "PageLayout$Ruler" (71 : Nat) ({ cls := "PageLayout$Paragraph", name := "tabWidth", desc := "(III)I" } : Jvm.MethodName)), (Jvm.Cond.methodLink "PageLayout$Ruler" (45 : Nat) ({ cls := "PageLayout$Text", name := "widthWithin", desc := "(IZ)I" } : Jvm.MethodName)), (Jvm.Cond.methodLink "PageLayout$Ruler" (49 : Nat) ({ cls := "PageLayout$Text", name := "endsLine", desc := "(I)Z" } : Jvm.MethodName)), (Jvm.Cond.methodLink "PageLayout$Lines" (91 : Nat) ({ cls := "PageLayout$Text", name := "isBreakBehind", desc := "(ILPageLayout$Paragraph;)Z" } : Jvm.MethodName)), (Jvm.Cond.instanceMethod ({ cls := "PageLayout$Text", name := "isBreakBehind", desc := "(ILPageLayout$Paragraph;)Z" } : Jvm.MethodName)), (Jvm.Cond.selects "PageLayout$Text" ({ cls := "PageLayout$Text", name := "isBreakBehind", desc := "(ILPageLayout$Paragraph;)Z" } : Jvm.MethodName) ({ cls := "PageLayout$Text", name := "isBreakBehind", desc := "(ILPageLayout$Paragraph;)Z" } : Jvm.MethodName)), (Jvm.Cond.code ({ cls := "PageLayout$Text", name := "isBreakBehind", desc := "(ILPageLayout$Paragraph;)Z" } : Jvm.MethodName) prog_7_method_5_code (3 : Nat) (Option.some Jvm.ClassFile.FieldType.boolean)), (Jvm.Cond.methodLink "PageLayout$Lines" (95 : Nat) ({ cls := "PageLayout$Ruler", name := "endBehind", desc := "(I)I" } : Jvm.MethodName)), (Jvm.Cond.instanceMethod ({ cls := "PageLayout$Ruler", name := "endBehind", desc := "(I)I" } : Jvm.MethodName)), (Jvm.Cond.selects "PageLayout$Ruler" ({ cls := "PageLayout$Ruler", name := "endBehind", desc := "(I)I" } : Jvm.MethodName) ({ cls := "PageLayout$Ruler", name := "endBehind", desc := "(I)I" } : Jvm.MethodName)), (Jvm.Cond.code ({ cls := "PageLayout$Ruler", name := "endBehind", desc := "(I)I" } : Jvm.MethodName) prog_5_method_5_code (2 : Nat) (Option.some Jvm.ClassFile.FieldType.int)), (Jvm.Cond.methodLink "PageLayout$Ruler" (59 : Nat) ({ cls := "PageLayout$Ruler", name := "leastEnd", desc := "()I" } : Jvm.MethodName)), (Jvm.Cond.instanceMethod ({ cls := "PageLayout$Ruler", name := "leastEnd", desc := "()I" } : Jvm.MethodName)), (Jvm.Cond.selects "PageLayout$Ruler" ({ cls := "PageLayout$Ruler", name := "leastEnd", desc := "()I" } : Jvm.MethodName) ({ cls := "PageLayout$Ruler", name := "leastEnd", desc := "()I" } : Jvm.MethodName)), (Jvm.Cond.code ({ cls := "PageLayout$Ruler", name := "leastEnd", desc := "()I" } : Jvm.MethodName) prog_5_method_4_code (1 : Nat) (Option.some Jvm.ClassFile.FieldType.int)), (Jvm.Cond.methodLink "PageLayout$Lines" (99 : Nat) ({ cls := "PageLayout$Ruler", name := "leastEnd", desc := "()I" } : Jvm.MethodName)), (Jvm.Cond.methodLink "PageLayout" (134 : Nat) ({ cls := "PageLayout$Pages", name := "fillAll", desc := "()V" } : Jvm.MethodName)), (Jvm.Cond.instanceMethod ({ cls := "PageLayout$Pages", name := "fillAll", desc := "()V" } : Jvm.MethodName)), (Jvm.Cond.selects "PageLayout$Pages" ({ cls := "PageLayout$Pages", name := "fillAll", desc := "()V" } : Jvm.MethodName) ({ cls := "PageLayout$Pages", name := "fillAll", desc := "()V" } : Jvm.MethodName)), (Jvm.Cond.code ({ cls := "PageLayout$Pages", name := "fillAll", desc := "()V" } : Jvm.MethodName) prog_3_method_2_code (3 : Nat) (Option.none : Option Jvm.ClassFile.FieldType)), (Jvm.Cond.methodLink "PageLayout$Pages" (35 : Nat) ({ cls := "PageLayout$Pages", name := "pageBehind", desc := "(I)I" } : Jvm.MethodName)), (Jvm.Cond.instanceMethod ({ cls := "PageLayout$Pages", name := "pageBehind", desc := "(I)I" } : Jvm.MethodName)), (Jvm.Cond.code ({ cls := "PageLayout$Pages", name := "pageBehind", desc := "(I)I" } : Jvm.MethodName) prog_3_method_4_code (4 : Nat) (Option.some Jvm.ClassFile.FieldType.int)), (Jvm.Cond.methodLink "PageLayout$Pages" (53 : Nat) ({ cls := "PageLayout$Pages", name := "standLines", desc := "(I)I" } : Jvm.MethodName))]
theorem gt_7_in : ∀ w ∈ gt_7, w ∈ lw_tbl := List.forall_mem_cons.mpr ⟨List.mem_of_getElem? (i := 341) (by decide +kernel), List.forall_mem_cons.mpr ⟨List.mem_of_getElem? (i := 342) (by decide +kernel), List.forall_mem_cons.mpr ⟨List.mem_of_getElem? (i := 343) (by decide +kernel), List.forall_mem_cons.mpr ⟨List.mem_of_getElem? (i := 344) (by decide +kernel), List.forall_mem_cons.mpr ⟨List.mem_of_getElem? (i := 345) (by decide +kernel), List.forall_mem_cons.mpr ⟨List.mem_of_getElem? (i := 346) (by decide +kernel), List.forall_mem_cons.mpr ⟨List.mem_of_getElem? (i := 347) (by decide +kernel), List.forall_mem_cons.mpr ⟨List.mem_of_getElem? (i := 349) (by decide +kernel), List.forall_mem_cons.mpr ⟨List.mem_of_getElem? (i := 350) (by decide +kernel), List.forall_mem_cons.mpr ⟨List.mem_of_getElem? (i := 351) (by decide +kernel), List.forall_mem_cons.mpr ⟨List.mem_of_getElem? (i := 352) (by decide +kernel), List.forall_mem_cons.mpr ⟨List.mem_of_getElem? (i := 353) (by decide +kernel), List.forall_mem_cons.mpr ⟨List.mem_of_getElem? (i := 354) (by decide +kernel), List.forall_mem_cons.mpr ⟨List.mem_of_getElem? (i := 355) (by decide +kernel), List.forall_mem_cons.mpr ⟨List.mem_of_getElem? (i := 357) (by decide +kernel), List.forall_mem_cons.mpr ⟨List.mem_of_getElem? (i := 358) (by decide +kernel), List.forall_mem_cons.mpr ⟨List.mem_of_getElem? (i := 359) (by decide +kernel), List.forall_mem_cons.mpr ⟨List.mem_of_getElem? (i := 360) (by decide +kernel), List.forall_mem_cons.mpr ⟨List.mem_of_getElem? (i := 361) (by decide +kernel), List.forall_mem_cons.mpr ⟨List.mem_of_getElem? (i := 362) (by decide +kernel), List.forall_mem_cons.mpr ⟨List.mem_of_getElem? (i := 363) (by decide +kernel), List.forall_mem_cons.mpr ⟨List.mem_of_getElem? (i := 364) (by decide +kernel), List.forall_mem_cons.mpr ⟨List.mem_of_getElem? (i := 365) (by decide +kernel), List.forall_mem_cons.mpr ⟨List.mem_of_getElem? (i := 366) (by decide +kernel), List.forall_mem_cons.mpr ⟨List.mem_of_getElem? (i := 367) (by decide +kernel), List.forall_mem_cons.mpr ⟨List.mem_of_getElem? (i := 368) (by decide +kernel), List.forall_mem_cons.mpr ⟨List.mem_of_getElem? (i := 369) (by decide +kernel), List.forall_mem_cons.mpr ⟨List.mem_of_getElem? (i := 370) (by decide +kernel), List.forall_mem_cons.mpr ⟨List.mem_of_getElem? (i := 371) (by decide +kernel), List.forall_mem_cons.mpr ⟨List.mem_of_getElem? (i := 372) (by decide +kernel), List.forall_mem_cons.mpr ⟨List.mem_of_getElem? (i := 373) (by decide +kernel), List.forall_mem_cons.mpr ⟨List.mem_of_getElem? (i := 374) (by decide +kernel), List.forall_mem_cons.mpr ⟨List.mem_of_getElem? (i := 375) (by decide +kernel), List.forall_mem_cons.mpr ⟨List.mem_of_getElem? (i := 376) (by decide +kernel), List.forall_mem_cons.mpr ⟨List.mem_of_getElem? (i := 377) (by decide +kernel), List.forall_mem_cons.mpr ⟨List.mem_of_getElem? (i := 378) (by decide +kernel), List.forall_mem_cons.mpr ⟨List.mem_of_getElem? (i := 379) (by decide +kernel), List.forall_mem_cons.mpr ⟨List.mem_of_getElem? (i := 381) (by decide +kernel), List.forall_mem_cons.mpr ⟨List.mem_of_getElem? (i := 382) (by decide +kernel), List.forall_mem_cons.mpr ⟨List.mem_of_getElem? (i := 383) (by decide +kernel), fun _ h => absurd h List.not_mem_nil⟩⟩⟩⟩⟩⟩⟩⟩⟩⟩⟩⟩⟩⟩⟩⟩⟩⟩⟩⟩⟩⟩⟩⟩⟩⟩⟩⟩⟩⟩⟩⟩⟩⟩⟩⟩⟩⟩⟩⟩
theorem gt_7_ok : ∀ w ∈ gt_7, (w.onTables && w.keeps) = true := by decide +kernel
def gt_8 : List Cond := [(Jvm.Cond.instanceMethod ({ cls := "PageLayout$Pages", name := "standLines", desc := "(I)I" } : Jvm.MethodName)), (Jvm.Cond.code ({ cls := "PageLayout$Pages", name := "standLines", desc := "(I)I" } : Jvm.MethodName) prog_3_method_5_code (3 : Nat) (Option.some Jvm.ClassFile.FieldType.int)), (Jvm.Cond.methodLink "PageLayout$Pages" (56 : Nat) ({ cls := "PageLayout$Pages", name := "mustEndAhead", desc := "(I)Z" } : Jvm.MethodName)), (Jvm.Cond.instanceMethod ({ cls := "PageLayout$Pages", name := "mustEndAhead", desc := "(I)Z" } : Jvm.MethodName)), (Jvm.Cond.code ({ cls := "PageLayout$Pages", name := "mustEndAhead", desc := "(I)Z" } : Jvm.MethodName) prog_3_method_9_code (2 : Nat) (Option.some Jvm.ClassFile.FieldType.boolean)), (Jvm.Cond.methodLink "PageLayout$Pages" (90 : Nat) ({ cls := "PageLayout$Lines", name := "endsPage", desc := "(I)Z" } : Jvm.MethodName)), (Jvm.Cond.instanceMethod ({ cls := "PageLayout$Lines", name := "endsPage", desc := "(I)Z" } : Jvm.MethodName)), (Jvm.Cond.selects "PageLayout$Lines" ({ cls := "PageLayout$Lines", name := "endsPage", desc := "(I)Z" } : Jvm.MethodName) ({ cls := "PageLayout$Lines", name := "endsPage", desc := "(I)Z" } : Jvm.MethodName)), (Jvm.Cond.code ({ cls := "PageLayout$Lines", name := "endsPage", desc := "(I)Z" } : Jvm.MethodName) prog_2_method_14_code (3 : Nat) (Option.some Jvm.ClassFile.FieldType.boolean)), (Jvm.Cond.methodLink "PageLayout$Pages" (71 : Nat) ({ cls := "PageLayout$Lines", name := "isFirstOfParagraph", desc := "(I)Z" } : Jvm.MethodName)), (Jvm.Cond.instanceMethod ({ cls := "PageLayout$Lines", name := "isFirstOfParagraph", desc := "(I)Z" } : Jvm.MethodName)), (Jvm.Cond.selects "PageLayout$Lines" ({ cls := "PageLayout$Lines", name := "isFirstOfParagraph", desc := "(I)Z" } : Jvm.MethodName) ({ cls := "PageLayout$Lines", name := "isFirstOfParagraph", desc := "(I)Z" } : Jvm.MethodName)), (Jvm.Cond.code ({ cls := "PageLayout$Lines", name := "isFirstOfParagraph", desc := "(I)Z" } : Jvm.MethodName) prog_2_method_12_code (2 : Nat) (Option.some Jvm.ClassFile.FieldType.boolean)), (Jvm.Cond.methodLink "PageLayout$Pages" (74 : Nat) ({ cls := "PageLayout$Pages", name := "paragraphOf", desc := "(I)LPageLayout$Paragraph;" } : Jvm.MethodName)), (Jvm.Cond.instanceMethod ({ cls := "PageLayout$Pages", name := "paragraphOf", desc := "(I)LPageLayout$Paragraph;" } : Jvm.MethodName)), (Jvm.Cond.code ({ cls := "PageLayout$Pages", name := "paragraphOf", desc := "(I)LPageLayout$Paragraph;" } : Jvm.MethodName) prog_3_method_8_code (2 : Nat) (Option.some (Jvm.ClassFile.FieldType.object "PageLayout$Paragraph"))), (Jvm.Cond.methodLink "PageLayout$Pages" (50 : Nat) ({ cls := "PageLayout$Pages", name := "bottomOf", desc := "(I)I" } : Jvm.MethodName)), (Jvm.Cond.instanceMethod ({ cls := "PageLayout$Pages", name := "bottomOf", desc := "(I)I" } : Jvm.MethodName)), (Jvm.Cond.code ({ cls := "PageLayout$Pages", name := "bottomOf", desc := "(I)I" } : Jvm.MethodName) prog_3_method_6_code (2 : Nat) (Option.some Jvm.ClassFile.FieldType.int)), (Jvm.Cond.methodLink "PageLayout$Pages" (63 : Nat) ({ cls := "PageLayout$Pages", name := "spaceAhead", desc := "(I)I" } : Jvm.MethodName)), (Jvm.Cond.instanceMethod ({ cls := "PageLayout$Pages", name := "spaceAhead", desc := "(I)I" } : Jvm.MethodName)), (Jvm.Cond.code ({ cls := "PageLayout$Pages", name := "spaceAhead", desc := "(I)I" } : Jvm.MethodName) prog_3_method_7_code (2 : Nat) (Option.some Jvm.ClassFile.FieldType.int)), (Jvm.Cond.methodLink "PageLayout$Pages" (60 : Nat) ({ cls := "PageLayout$Pages", name := "mayEndAhead", desc := "(I)Z" } : Jvm.MethodName)), (Jvm.Cond.instanceMethod ({ cls := "PageLayout$Pages", name := "mayEndAhead", desc := "(I)Z" } : Jvm.MethodName)), (Jvm.Cond.code ({ cls := "PageLayout$Pages", name := "mayEndAhead", desc := "(I)Z" } : Jvm.MethodName) prog_3_method_10_code (4 : Nat) (Option.some Jvm.ClassFile.FieldType.boolean)), (Jvm.Cond.methodLink "PageLayout$Pages" (93 : Nat) ({ cls := "PageLayout$Lines", name := "isLastOfParagraph", desc := "(I)Z" } : Jvm.MethodName)), (Jvm.Cond.instanceMethod ({ cls := "PageLayout$Lines", name := "isLastOfParagraph", desc := "(I)Z" } : Jvm.MethodName)), (Jvm.Cond.selects "PageLayout$Lines" ({ cls := "PageLayout$Lines", name := "isLastOfParagraph", desc := "(I)Z" } : Jvm.MethodName) ({ cls := "PageLayout$Lines", name := "isLastOfParagraph", desc := "(I)Z" } : Jvm.MethodName)), (Jvm.Cond.code ({ cls := "PageLayout$Lines", name := "isLastOfParagraph", desc := "(I)Z" } : Jvm.MethodName) prog_2_method_13_code (2 : Nat) (Option.some Jvm.ClassFile.FieldType.boolean)), (Jvm.Cond.methodLink "PageLayout$Pages" (39 : Nat) ({ cls := "java/lang/Math", name := "max", desc := "(II)I" } : Jvm.MethodName)), (Jvm.Cond.methodLink "PageLayout$Pages" (45 : Nat) ({ cls := "PageLayout$Pages", name := "addPage", desc := "(II)V" } : Jvm.MethodName)), (Jvm.Cond.instanceMethod ({ cls := "PageLayout$Pages", name := "addPage", desc := "(II)V" } : Jvm.MethodName)), (Jvm.Cond.code ({ cls := "PageLayout$Pages", name := "addPage", desc := "(II)V" } : Jvm.MethodName) prog_3_method_3_code (4 : Nat) (Option.none : Option Jvm.ClassFile.FieldType)), (Jvm.Cond.methodLink "PageLayoutLaw" (81 : Nat) ({ cls := "PageLayout", name := "count", desc := "(I)I" } : Jvm.MethodName)), (Jvm.Cond.instanceMethod ({ cls := "PageLayout", name := "count", desc := "(I)I" } : Jvm.MethodName)), (Jvm.Cond.selects "PageLayout" ({ cls := "PageLayout", name := "count", desc := "(I)I" } : Jvm.MethodName) ({ cls := "PageLayout", name := "count", desc := "(I)I" } : Jvm.MethodName)), (Jvm.Cond.code ({ cls := "PageLayout", name := "count", desc := "(I)I" } : Jvm.MethodName) prog_1_method_9_code (2 : Nat) (Option.some Jvm.ClassFile.FieldType.int)), (Jvm.Cond.methodLink "PageLayoutLaw" (54 : Nat) ({ cls := "PageLayoutLaw", name := "paragraph", desc := "(LPageLayout;[J)I" } : Jvm.MethodName)), (Jvm.Cond.static ({ cls := "PageLayoutLaw", name := "paragraph", desc := "(LPageLayout;[J)I" } : Jvm.MethodName)), (Jvm.Cond.classLink "PageLayoutLaw" (13 : Nat) "java/lang/IllegalStateException")]
theorem gt_8_in : ∀ w ∈ gt_8, w ∈ lw_tbl := List.forall_mem_cons.mpr ⟨List.mem_of_getElem? (i := 385) (by decide +kernel), List.forall_mem_cons.mpr ⟨List.mem_of_getElem? (i := 386) (by decide +kernel), List.forall_mem_cons.mpr ⟨List.mem_of_getElem? (i := 387) (by decide +kernel), List.forall_mem_cons.mpr ⟨List.mem_of_getElem? (i := 389) (by decide +kernel), List.forall_mem_cons.mpr ⟨List.mem_of_getElem? (i := 390) (by decide +kernel), List.forall_mem_cons.mpr ⟨List.mem_of_getElem? (i := 391) (by decide +kernel), List.forall_mem_cons.mpr ⟨List.mem_of_getElem? (i := 392) (by decide +kernel), List.forall_mem_cons.mpr ⟨List.mem_of_getElem? (i := 393) (by decide +kernel), List.forall_mem_cons.mpr ⟨List.mem_of_getElem? (i := 394) (by decide +kernel), List.forall_mem_cons.mpr ⟨List.mem_of_getElem? (i := 395) (by decide +kernel), List.forall_mem_cons.mpr ⟨List.mem_of_getElem? (i := 396) (by decide +kernel), List.forall_mem_cons.mpr ⟨List.mem_of_getElem? (i := 397) (by decide +kernel), List.forall_mem_cons.mpr ⟨List.mem_of_getElem? (i := 398) (by decide +kernel), List.forall_mem_cons.mpr ⟨List.mem_of_getElem? (i := 399) (by decide +kernel), List.forall_mem_cons.mpr ⟨List.mem_of_getElem? (i := 401) (by decide +kernel), List.forall_mem_cons.mpr ⟨List.mem_of_getElem? (i := 402) (by decide +kernel), List.forall_mem_cons.mpr ⟨List.mem_of_getElem? (i := 403) (by decide +kernel), List.forall_mem_cons.mpr ⟨List.mem_of_getElem? (i := 405) (by decide +kernel), List.forall_mem_cons.mpr ⟨List.mem_of_getElem? (i := 406) (by decide +kernel), List.forall_mem_cons.mpr ⟨List.mem_of_getElem? (i := 407) (by decide +kernel), List.forall_mem_cons.mpr ⟨List.mem_of_getElem? (i := 409) (by decide +kernel), List.forall_mem_cons.mpr ⟨List.mem_of_getElem? (i := 410) (by decide +kernel), List.forall_mem_cons.mpr ⟨List.mem_of_getElem? (i := 411) (by decide +kernel), List.forall_mem_cons.mpr ⟨List.mem_of_getElem? (i := 413) (by decide +kernel), List.forall_mem_cons.mpr ⟨List.mem_of_getElem? (i := 414) (by decide +kernel), List.forall_mem_cons.mpr ⟨List.mem_of_getElem? (i := 415) (by decide +kernel), List.forall_mem_cons.mpr ⟨List.mem_of_getElem? (i := 416) (by decide +kernel), List.forall_mem_cons.mpr ⟨List.mem_of_getElem? (i := 417) (by decide +kernel), List.forall_mem_cons.mpr ⟨List.mem_of_getElem? (i := 418) (by decide +kernel), List.forall_mem_cons.mpr ⟨List.mem_of_getElem? (i := 419) (by decide +kernel), List.forall_mem_cons.mpr ⟨List.mem_of_getElem? (i := 420) (by decide +kernel), List.forall_mem_cons.mpr ⟨List.mem_of_getElem? (i := 422) (by decide +kernel), List.forall_mem_cons.mpr ⟨List.mem_of_getElem? (i := 423) (by decide +kernel), List.forall_mem_cons.mpr ⟨List.mem_of_getElem? (i := 424) (by decide +kernel), List.forall_mem_cons.mpr ⟨List.mem_of_getElem? (i := 425) (by decide +kernel), List.forall_mem_cons.mpr ⟨List.mem_of_getElem? (i := 426) (by decide +kernel), List.forall_mem_cons.mpr ⟨List.mem_of_getElem? (i := 427) (by decide +kernel), List.forall_mem_cons.mpr ⟨List.mem_of_getElem? (i := 428) (by decide +kernel), List.forall_mem_cons.mpr ⟨List.mem_of_getElem? (i := 429) (by decide +kernel), List.forall_mem_cons.mpr ⟨List.mem_of_getElem? (i := 431) (by decide +kernel), fun _ h => absurd h List.not_mem_nil⟩⟩⟩⟩⟩⟩⟩⟩⟩⟩⟩⟩⟩⟩⟩⟩⟩⟩⟩⟩⟩⟩⟩⟩⟩⟩⟩⟩⟩⟩⟩⟩⟩⟩⟩⟩⟩⟩⟩⟩
theorem gt_8_ok : ∀ w ∈ gt_8, (w.onTables && w.keeps) = true := by decide +kernel
def gt_9 : List Cond := [(Jvm.Cond.methodLink "PageLayoutLaw" (7 : Nat) ({ cls := "PageLayout", name := "paragraph", desc := "()I" } : Jvm.MethodName)), (Jvm.Cond.instanceMethod ({ cls := "PageLayout", name := "paragraph", desc := "()I" } : Jvm.MethodName)), (Jvm.Cond.selects "PageLayout" ({ cls := "PageLayout", name := "paragraph", desc := "()I" } : Jvm.MethodName) ({ cls := "PageLayout", name := "paragraph", desc := "()I" } : Jvm.MethodName)), (Jvm.Cond.code ({ cls := "PageLayout", name := "paragraph", desc := "()I" } : Jvm.MethodName) prog_1_method_3_code (1 : Nat) (Option.some Jvm.ClassFile.FieldType.int)), (Jvm.Cond.classLink "PageLayout" (55 : Nat) "java/lang/IllegalStateException"), (Jvm.Cond.instantiable "java/lang/IllegalStateException" (6 : Nat)), (Jvm.Cond.selects "java/lang/IllegalStateException" ({ cls := "java/lang/Throwable", name := "fillInStackTrace", desc := "(I)Ljava/lang/Throwable;" } : Jvm.MethodName) ({ cls := "java/lang/Throwable", name := "fillInStackTrace", desc := "(I)Ljava/lang/Throwable;" } : Jvm.MethodName)), (Jvm.Cond.selects "java/lang/IllegalStateException" ({ cls := "java/lang/Throwable", name := "fillInStackTrace", desc := "()Ljava/lang/Throwable;" } : Jvm.MethodName) ({ cls := "java/lang/Throwable", name := "fillInStackTrace", desc := "()Ljava/lang/Throwable;" } : Jvm.MethodName)), (Jvm.Cond.lays "java/lang/IllegalStateException" "java/lang/Throwable" "cause" "Ljava/lang/Throwable;"), (Jvm.Cond.lays "java/lang/Throwable" "java/lang/Throwable" "cause" "Ljava/lang/Throwable;"), (Jvm.Cond.lays "java/lang/IllegalStateException" "java/lang/Throwable" "stackTrace" "[Ljava/lang/StackTraceElement;"), (Jvm.Cond.lays "java/lang/Throwable" "java/lang/Throwable" "stackTrace" "[Ljava/lang/StackTraceElement;"), (Jvm.Cond.lays "java/lang/IllegalStateException" "java/lang/Throwable" "suppressedExceptions" "Ljava/util/List;"), (Jvm.Cond.lays "java/lang/Throwable" "java/lang/Throwable" "suppressedExceptions" "Ljava/util/List;"), (Jvm.Cond.lays "java/lang/IllegalStateException" "java/lang/Throwable" "detailMessage" "Ljava/lang/String;"), (Jvm.Cond.lays "java/lang/Throwable" "java/lang/Throwable" "detailMessage" "Ljava/lang/String;"), (Jvm.Cond.lays "java/lang/IllegalStateException" "java/lang/Throwable" "backtrace" "Ljava/lang/Object;"), (Jvm.Cond.lays "java/lang/Throwable" "java/lang/Throwable" "backtrace" "Ljava/lang/Object;"), (Jvm.Cond.fieldLink "java/lang/Throwable" (198 : Nat) "java/lang/Throwable" "backtrace" "Ljava/lang/Object;"), (Jvm.Cond.instanceMethod ({ cls := "java/lang/Throwable", name := "<init>", desc := "()V" } : Jvm.MethodName)), (Jvm.Cond.code ({ cls := "java/lang/Throwable", name := "<init>", desc := "()V" } : Jvm.MethodName) prog_16_method_1_code (1 : Nat) (Option.none : Option Jvm.ClassFile.FieldType)), (Jvm.Cond.methodLink "java/lang/Throwable" (1 : Nat) ({ cls := "java/lang/Object", name := "<init>", desc := "()V" } : Jvm.MethodName)), (Jvm.Cond.fieldLink "java/lang/Throwable" (13 : Nat) "java/lang/Throwable" "UNASSIGNED_STACK" "[Ljava/lang/StackTraceElement;"), (Jvm.Cond.fieldLink "java/lang/Throwable" (20 : Nat) "java/lang/Throwable" "SUPPRESSED_SENTINEL" "Ljava/util/List;"), (Jvm.Cond.methodLink "java/lang/Throwable" (27 : Nat) ({ cls := "java/lang/Throwable", name := "fillInStackTrace", desc := "()Ljava/lang/Throwable;" } : Jvm.MethodName)), (Jvm.Cond.instanceMethod ({ cls := "java/lang/Throwable", name := "fillInStackTrace", desc := "()Ljava/lang/Throwable;" } : Jvm.MethodName)), (Jvm.Cond.selects "java/lang/IllegalArgumentException" ({ cls := "java/lang/Throwable", name := "fillInStackTrace", desc := "()Ljava/lang/Throwable;" } : Jvm.MethodName) ({ cls := "java/lang/Throwable", name := "fillInStackTrace", desc := "()Ljava/lang/Throwable;" } : Jvm.MethodName)), (Jvm.Cond.selects "java/util/NoSuchElementException" ({ cls := "java/lang/Throwable", name := "fillInStackTrace", desc := "()Ljava/lang/Throwable;" } : Jvm.MethodName) ({ cls := "java/lang/Throwable", name := "fillInStackTrace", desc := "()Ljava/lang/Throwable;" } : Jvm.MethodName)), (Jvm.Cond.methodLink "java/lang/Throwable" (202 : Nat) ({ cls := "java/lang/Throwable", name := "fillInStackTrace", desc := "(I)Ljava/lang/Throwable;" } : Jvm.MethodName)), (Jvm.Cond.instanceMethod ({ cls := "java/lang/Throwable", name := "fillInStackTrace", desc := "(I)Ljava/lang/Throwable;" } : Jvm.MethodName)), (Jvm.Cond.instantiable "java/lang/Throwable" (6 : Nat)), (Jvm.Cond.methodLink "PageLayout" (59 : Nat) ({ cls := "java/lang/IllegalStateException", name := "<init>", desc := "(Ljava/lang/String;)V" } : Jvm.MethodName)), (Jvm.Cond.instanceMethod ({ cls := "java/lang/IllegalStateException", name := "<init>", desc := "(Ljava/lang/String;)V" } : Jvm.MethodName)), (Jvm.Cond.code ({ cls := "java/lang/IllegalStateException", name := "<init>", desc := "(Ljava/lang/String;)V" } : Jvm.MethodName) prog_12_method_2_code (2 : Nat) (Option.none : Option Jvm.ClassFile.FieldType)), (Jvm.Cond.methodLink "java/lang/IllegalStateException" (7 : Nat) ({ cls := "java/lang/RuntimeException", name := "<init>", desc := "(Ljava/lang/String;)V" } : Jvm.MethodName)), (Jvm.Cond.instanceMethod ({ cls := "java/lang/RuntimeException", name := "<init>", desc := "(Ljava/lang/String;)V" } : Jvm.MethodName)), (Jvm.Cond.code ({ cls := "java/lang/RuntimeException", name := "<init>", desc := "(Ljava/lang/String;)V" } : Jvm.MethodName) prog_14_method_2_code (2 : Nat) (Option.none : Option Jvm.ClassFile.FieldType)), (Jvm.Cond.methodLink "java/lang/RuntimeException" (7 : Nat) ({ cls := "java/lang/Exception", name := "<init>", desc := "(Ljava/lang/String;)V" } : Jvm.MethodName)), (Jvm.Cond.instanceMethod ({ cls := "java/lang/Exception", name := "<init>", desc := "(Ljava/lang/String;)V" } : Jvm.MethodName)), (Jvm.Cond.code ({ cls := "java/lang/Exception", name := "<init>", desc := "(Ljava/lang/String;)V" } : Jvm.MethodName) prog_10_method_2_code (2 : Nat) (Option.none : Option Jvm.ClassFile.FieldType))]
theorem gt_9_in : ∀ w ∈ gt_9, w ∈ lw_tbl := List.forall_mem_cons.mpr ⟨List.mem_of_getElem? (i := 432) (by decide +kernel), List.forall_mem_cons.mpr ⟨List.mem_of_getElem? (i := 433) (by decide +kernel), List.forall_mem_cons.mpr ⟨List.mem_of_getElem? (i := 434) (by decide +kernel), List.forall_mem_cons.mpr ⟨List.mem_of_getElem? (i := 435) (by decide +kernel), List.forall_mem_cons.mpr ⟨List.mem_of_getElem? (i := 436) (by decide +kernel), List.forall_mem_cons.mpr ⟨List.mem_of_getElem? (i := 437) (by decide +kernel), List.forall_mem_cons.mpr ⟨List.mem_of_getElem? (i := 445) (by decide +kernel), List.forall_mem_cons.mpr ⟨List.mem_of_getElem? (i := 446) (by decide +kernel), List.forall_mem_cons.mpr ⟨List.mem_of_getElem? (i := 447) (by decide +kernel), List.forall_mem_cons.mpr ⟨List.mem_of_getElem? (i := 448) (by decide +kernel), List.forall_mem_cons.mpr ⟨List.mem_of_getElem? (i := 449) (by decide +kernel), List.forall_mem_cons.mpr ⟨List.mem_of_getElem? (i := 450) (by decide +kernel), List.forall_mem_cons.mpr ⟨List.mem_of_getElem? (i := 451) (by decide +kernel), List.forall_mem_cons.mpr ⟨List.mem_of_getElem? (i := 452) (by decide +kernel), List.forall_mem_cons.mpr ⟨List.mem_of_getElem? (i := 453) (by decide +kernel), List.forall_mem_cons.mpr ⟨List.mem_of_getElem? (i := 454) (by decide +kernel), List.forall_mem_cons.mpr ⟨List.mem_of_getElem? (i := 455) (by decide +kernel), List.forall_mem_cons.mpr ⟨List.mem_of_getElem? (i := 456) (by decide +kernel), List.forall_mem_cons.mpr ⟨List.mem_of_getElem? (i := 457) (by decide +kernel), List.forall_mem_cons.mpr ⟨List.mem_of_getElem? (i := 459) (by decide +kernel), List.forall_mem_cons.mpr ⟨List.mem_of_getElem? (i := 460) (by decide +kernel), List.forall_mem_cons.mpr ⟨List.mem_of_getElem? (i := 461) (by decide +kernel), List.forall_mem_cons.mpr ⟨List.mem_of_getElem? (i := 462) (by decide +kernel), List.forall_mem_cons.mpr ⟨List.mem_of_getElem? (i := 464) (by decide +kernel), List.forall_mem_cons.mpr ⟨List.mem_of_getElem? (i := 466) (by decide +kernel), List.forall_mem_cons.mpr ⟨List.mem_of_getElem? (i := 467) (by decide +kernel), List.forall_mem_cons.mpr ⟨List.mem_of_getElem? (i := 469) (by decide +kernel), List.forall_mem_cons.mpr ⟨List.mem_of_getElem? (i := 470) (by decide +kernel), List.forall_mem_cons.mpr ⟨List.mem_of_getElem? (i := 472) (by decide +kernel), List.forall_mem_cons.mpr ⟨List.mem_of_getElem? (i := 474) (by decide +kernel), List.forall_mem_cons.mpr ⟨List.mem_of_getElem? (i := 475) (by decide +kernel), List.forall_mem_cons.mpr ⟨List.mem_of_getElem? (i := 478) (by decide +kernel), List.forall_mem_cons.mpr ⟨List.mem_of_getElem? (i := 479) (by decide +kernel), List.forall_mem_cons.mpr ⟨List.mem_of_getElem? (i := 480) (by decide +kernel), List.forall_mem_cons.mpr ⟨List.mem_of_getElem? (i := 481) (by decide +kernel), List.forall_mem_cons.mpr ⟨List.mem_of_getElem? (i := 482) (by decide +kernel), List.forall_mem_cons.mpr ⟨List.mem_of_getElem? (i := 483) (by decide +kernel), List.forall_mem_cons.mpr ⟨List.mem_of_getElem? (i := 484) (by decide +kernel), List.forall_mem_cons.mpr ⟨List.mem_of_getElem? (i := 485) (by decide +kernel), List.forall_mem_cons.mpr ⟨List.mem_of_getElem? (i := 486) (by decide +kernel), fun _ h => absurd h List.not_mem_nil⟩⟩⟩⟩⟩⟩⟩⟩⟩⟩⟩⟩⟩⟩⟩⟩⟩⟩⟩⟩⟩⟩⟩⟩⟩⟩⟩⟩⟩⟩⟩⟩⟩⟩⟩⟩⟩⟩⟩⟩
theorem gt_9_ok : ∀ w ∈ gt_9, (w.onTables && w.keeps) = true := by decide +kernel
def gt_10 : List Cond := [(Jvm.Cond.methodLink "java/lang/Exception" (7 : Nat) ({ cls := "java/lang/Throwable", name := "<init>", desc := "(Ljava/lang/String;)V" } : Jvm.MethodName)), (Jvm.Cond.instanceMethod ({ cls := "java/lang/Throwable", name := "<init>", desc := "(Ljava/lang/String;)V" } : Jvm.MethodName)), (Jvm.Cond.code ({ cls := "java/lang/Throwable", name := "<init>", desc := "(Ljava/lang/String;)V" } : Jvm.MethodName) prog_16_method_2_code (2 : Nat) (Option.none : Option Jvm.ClassFile.FieldType)), (Jvm.Cond.fieldLink "java/lang/Throwable" (198 : Nat) "java/lang/Throwable" "backtrace" "Ljava/lang/Object;"), (Jvm.Cond.fieldLink "java/lang/Throwable" (31 : Nat) "java/lang/Throwable" "detailMessage" "Ljava/lang/String;"), (Jvm.Cond.fieldLink "java/lang/Throwable" (7 : Nat) "java/lang/Throwable" "cause" "Ljava/lang/Throwable;"), (Jvm.Cond.fieldLink "java/lang/Throwable" (17 : Nat) "java/lang/Throwable" "stackTrace" "[Ljava/lang/StackTraceElement;"), (Jvm.Cond.fieldLink "java/lang/Throwable" (24 : Nat) "java/lang/Throwable" "suppressedExceptions" "Ljava/util/List;"), (Jvm.Cond.lays "java/lang/IllegalStateException" "java/lang/Throwable" "depth" "I"), (Jvm.Cond.methodLink "PageLayout" (62 : Nat) ({ cls := "PageLayout$Text", name := "addParagraph", desc := "()I" } : Jvm.MethodName)), (Jvm.Cond.instanceMethod ({ cls := "PageLayout$Text", name := "addParagraph", desc := "()I" } : Jvm.MethodName)), (Jvm.Cond.selects "PageLayout$Text" ({ cls := "PageLayout$Text", name := "addParagraph", desc := "()I" } : Jvm.MethodName) ({ cls := "PageLayout$Text", name := "addParagraph", desc := "()I" } : Jvm.MethodName)), (Jvm.Cond.code ({ cls := "PageLayout$Text", name := "addParagraph", desc := "()I" } : Jvm.MethodName) prog_7_method_2_code (1 : Nat) (Option.some Jvm.ClassFile.FieldType.int)), (Jvm.Cond.methodLink "PageLayout$Text" (35 : Nat) ({ cls := "PageLayout$Paragraph", name := "renew", desc := "(I)V" } : Jvm.MethodName)), (Jvm.Cond.instanceMethod ({ cls := "PageLayout$Paragraph", name := "renew", desc := "(I)V" } : Jvm.MethodName)), (Jvm.Cond.selects "PageLayout$Paragraph" ({ cls := "PageLayout$Paragraph", name := "renew", desc := "(I)V" } : Jvm.MethodName) ({ cls := "PageLayout$Paragraph", name := "renew", desc := "(I)V" } : Jvm.MethodName)), (Jvm.Cond.code ({ cls := "PageLayout$Paragraph", name := "renew", desc := "(I)V" } : Jvm.MethodName) prog_4_method_2_code (2 : Nat) (Option.none : Option Jvm.ClassFile.FieldType)), (Jvm.Cond.methodLink "PageLayout$Paragraph" (21 : Nat) ({ cls := "java/util/Arrays", name := "fill", desc := "([II)V" } : Jvm.MethodName)), (Jvm.Cond.static ({ cls := "java/util/Arrays", name := "fill", desc := "([II)V" } : Jvm.MethodName)), (Jvm.Cond.code ({ cls := "java/util/Arrays", name := "fill", desc := "([II)V" } : Jvm.MethodName) prog_17_method_103_code (4 : Nat) (Option.none : Option Jvm.ClassFile.FieldType)), (Jvm.Cond.methodLink "PageLayoutLaw" (63 : Nat) ({ cls := "PageLayoutLaw", name := "sign", desc := "(LPageLayout;III[J)I" } : Jvm.MethodName)), (Jvm.Cond.static ({ cls := "PageLayoutLaw", name := "sign", desc := "(LPageLayout;III[J)I" } : Jvm.MethodName)), (Jvm.Cond.classLink "PageLayoutLaw" (19 : Nat) "java/util/NoSuchElementException"), (Jvm.Cond.classLink "PageLayoutLaw" (21 : Nat) "java/lang/IllegalArgumentException"), (Jvm.Cond.methodLink "PageLayoutLaw" (15 : Nat) ({ cls := "PageLayout", name := "sign", desc := "(III)I" } : Jvm.MethodName)), (Jvm.Cond.instanceMethod ({ cls := "PageLayout", name := "sign", desc := "(III)I" } : Jvm.MethodName)), (Jvm.Cond.selects "PageLayout" ({ cls := "PageLayout", name := "sign", desc := "(III)I" } : Jvm.MethodName) ({ cls := "PageLayout", name := "sign", desc := "(III)I" } : Jvm.MethodName)), (Jvm.Cond.code ({ cls := "PageLayout", name := "sign", desc := "(III)I" } : Jvm.MethodName) prog_1_method_4_code (4 : Nat) (Option.some Jvm.ClassFile.FieldType.int)), (Jvm.Cond.classLink "PageLayout" (66 : Nat) "java/util/NoSuchElementException"), (Jvm.Cond.instantiable "java/util/NoSuchElementException" (6 : Nat)), (Jvm.Cond.selects "java/util/NoSuchElementException" ({ cls := "java/lang/Throwable", name := "fillInStackTrace", desc := "(I)Ljava/lang/Throwable;" } : Jvm.MethodName) ({ cls := "java/lang/Throwable", name := "fillInStackTrace", desc := "(I)Ljava/lang/Throwable;" } : Jvm.MethodName)), (Jvm.Cond.lays "java/util/NoSuchElementException" "java/lang/Throwable" "cause" "Ljava/lang/Throwable;"), (Jvm.Cond.lays "java/util/NoSuchElementException" "java/lang/Throwable" "stackTrace" "[Ljava/lang/StackTraceElement;"), (Jvm.Cond.lays "java/util/NoSuchElementException" "java/lang/Throwable" "suppressedExceptions" "Ljava/util/List;"), (Jvm.Cond.lays "java/util/NoSuchElementException" "java/lang/Throwable" "detailMessage" "Ljava/lang/String;"), (Jvm.Cond.lays "java/util/NoSuchElementException" "java/lang/Throwable" "backtrace" "Ljava/lang/Object;"), (Jvm.Cond.methodLink "PageLayout" (70 : Nat) ({ cls := "java/util/NoSuchElementException", name := "<init>", desc := "(Ljava/lang/String;)V" } : Jvm.MethodName)), (Jvm.Cond.instanceMethod ({ cls := "java/util/NoSuchElementException", name := "<init>", desc := "(Ljava/lang/String;)V" } : Jvm.MethodName)), (Jvm.Cond.code ({ cls := "java/util/NoSuchElementException", name := "<init>", desc := "(Ljava/lang/String;)V" } : Jvm.MethodName) prog_18_method_4_code (2 : Nat) (Option.none : Option Jvm.ClassFile.FieldType)), (Jvm.Cond.methodLink "java/util/NoSuchElementException" (13 : Nat) ({ cls := "java/lang/RuntimeException", name := "<init>", desc := "(Ljava/lang/String;)V" } : Jvm.MethodName))]
theorem gt_10_in : ∀ w ∈ gt_10, w ∈ lw_tbl := List.forall_mem_cons.mpr ⟨List.mem_of_getElem? (i := 487) (by decide +kernel), List.forall_mem_cons.mpr ⟨List.mem_of_getElem? (i := 488) (by decide +kernel), List.forall_mem_cons.mpr ⟨List.mem_of_getElem? (i := 489) (by decide +kernel), List.forall_mem_cons.mpr ⟨List.mem_of_getElem? (i := 490) (by decide +kernel), List.forall_mem_cons.mpr ⟨List.mem_of_getElem? (i := 491) (by decide +kernel), List.forall_mem_cons.mpr ⟨List.mem_of_getElem? (i := 492) (by decide +kernel), List.forall_mem_cons.mpr ⟨List.mem_of_getElem? (i := 493) (by decide +kernel), List.forall_mem_cons.mpr ⟨List.mem_of_getElem? (i := 494) (by decide +kernel), List.forall_mem_cons.mpr ⟨List.mem_of_getElem? (i := 499) (by decide +kernel), List.forall_mem_cons.mpr ⟨List.mem_of_getElem? (i := 504) (by decide +kernel), List.forall_mem_cons.mpr ⟨List.mem_of_getElem? (i := 505) (by decide +kernel), List.forall_mem_cons.mpr ⟨List.mem_of_getElem? (i := 506) (by decide +kernel), List.forall_mem_cons.mpr ⟨List.mem_of_getElem? (i := 507) (by decide +kernel), List.forall_mem_cons.mpr ⟨List.mem_of_getElem? (i := 508) (by decide +kernel), List.forall_mem_cons.mpr ⟨List.mem_of_getElem? (i := 509) (by decide +kernel), List.forall_mem_cons.mpr ⟨List.mem_of_getElem? (i := 510) (by decide +kernel), List.forall_mem_cons.mpr ⟨List.mem_of_getElem? (i := 511) (by decide +kernel), List.forall_mem_cons.mpr ⟨List.mem_of_getElem? (i := 512) (by decide +kernel), List.forall_mem_cons.mpr ⟨List.mem_of_getElem? (i := 513) (by decide +kernel), List.forall_mem_cons.mpr ⟨List.mem_of_getElem? (i := 514) (by decide +kernel), List.forall_mem_cons.mpr ⟨List.mem_of_getElem? (i := 515) (by decide +kernel), List.forall_mem_cons.mpr ⟨List.mem_of_getElem? (i := 516) (by decide +kernel), List.forall_mem_cons.mpr ⟨List.mem_of_getElem? (i := 518) (by decide +kernel), List.forall_mem_cons.mpr ⟨List.mem_of_getElem? (i := 519) (by decide +kernel), List.forall_mem_cons.mpr ⟨List.mem_of_getElem? (i := 520) (by decide +kernel), List.forall_mem_cons.mpr ⟨List.mem_of_getElem? (i := 521) (by decide +kernel), List.forall_mem_cons.mpr ⟨List.mem_of_getElem? (i := 522) (by decide +kernel), List.forall_mem_cons.mpr ⟨List.mem_of_getElem? (i := 523) (by decide +kernel), List.forall_mem_cons.mpr ⟨List.mem_of_getElem? (i := 524) (by decide +kernel), List.forall_mem_cons.mpr ⟨List.mem_of_getElem? (i := 525) (by decide +kernel), List.forall_mem_cons.mpr ⟨List.mem_of_getElem? (i := 527) (by decide +kernel), List.forall_mem_cons.mpr ⟨List.mem_of_getElem? (i := 528) (by decide +kernel), List.forall_mem_cons.mpr ⟨List.mem_of_getElem? (i := 529) (by decide +kernel), List.forall_mem_cons.mpr ⟨List.mem_of_getElem? (i := 530) (by decide +kernel), List.forall_mem_cons.mpr ⟨List.mem_of_getElem? (i := 531) (by decide +kernel), List.forall_mem_cons.mpr ⟨List.mem_of_getElem? (i := 532) (by decide +kernel), List.forall_mem_cons.mpr ⟨List.mem_of_getElem? (i := 534) (by decide +kernel), List.forall_mem_cons.mpr ⟨List.mem_of_getElem? (i := 535) (by decide +kernel), List.forall_mem_cons.mpr ⟨List.mem_of_getElem? (i := 536) (by decide +kernel), List.forall_mem_cons.mpr ⟨List.mem_of_getElem? (i := 537) (by decide +kernel), fun _ h => absurd h List.not_mem_nil⟩⟩⟩⟩⟩⟩⟩⟩⟩⟩⟩⟩⟩⟩⟩⟩⟩⟩⟩⟩⟩⟩⟩⟩⟩⟩⟩⟩⟩⟩⟩⟩⟩⟩⟩⟩⟩⟩⟩⟩
theorem gt_10_ok : ∀ w ∈ gt_10, (w.onTables && w.keeps) = true := by decide +kernel
def gt_11 : List Cond := [(Jvm.Cond.lays "java/util/NoSuchElementException" "java/lang/Throwable" "depth" "I"), (Jvm.Cond.methodLink "PageLayout" (71 : Nat) ({ cls := "PageLayout", name := "isOutside", desc := "(III)Z" } : Jvm.MethodName)), (Jvm.Cond.static ({ cls := "PageLayout", name := "isOutside", desc := "(III)Z" } : Jvm.MethodName)), (Jvm.Cond.code ({ cls := "PageLayout", name := "isOutside", desc := "(III)Z" } : Jvm.MethodName) prog_1_method_15_code (3 : Nat) (Option.some Jvm.ClassFile.FieldType.boolean)), (Jvm.Cond.classLink "PageLayout" (75 : Nat) "java/lang/IllegalArgumentException"), (Jvm.Cond.instantiable "java/lang/IllegalArgumentException" (6 : Nat)), (Jvm.Cond.selects "java/lang/IllegalArgumentException" ({ cls := "java/lang/Throwable", name := "fillInStackTrace", desc := "(I)Ljava/lang/Throwable;" } : Jvm.MethodName) ({ cls := "java/lang/Throwable", name := "fillInStackTrace", desc := "(I)Ljava/lang/Throwable;" } : Jvm.MethodName)), (Jvm.Cond.lays "java/lang/IllegalArgumentException" "java/lang/Throwable" "cause" "Ljava/lang/Throwable;"), (Jvm.Cond.lays "java/lang/IllegalArgumentException" "java/lang/Throwable" "stackTrace" "[Ljava/lang/StackTraceElement;"), (Jvm.Cond.lays "java/lang/IllegalArgumentException" "java/lang/Throwable" "suppressedExceptions" "Ljava/util/List;"), (Jvm.Cond.lays "java/lang/IllegalArgumentException" "java/lang/Throwable" "detailMessage" "Ljava/lang/String;"), (Jvm.Cond.lays "java/lang/IllegalArgumentException" "java/lang/Throwable" "backtrace" "Ljava/lang/Object;"), (Jvm.Cond.methodLink "PageLayout" (79 : Nat) ({ cls := "java/lang/IllegalArgumentException", name := "<init>", desc := "(Ljava/lang/String;)V" } : Jvm.MethodName)), (Jvm.Cond.instanceMethod ({ cls := "java/lang/IllegalArgumentException", name := "<init>", desc := "(Ljava/lang/String;)V" } : Jvm.MethodName)), (Jvm.Cond.code ({ cls := "java/lang/IllegalArgumentException", name := "<init>", desc := "(Ljava/lang/String;)V" } : Jvm.MethodName) prog_11_method_2_code (2 : Nat) (Option.none : Option Jvm.ClassFile.FieldType)), (Jvm.Cond.methodLink "java/lang/IllegalArgumentException" (7 : Nat) ({ cls := "java/lang/RuntimeException", name := "<init>", desc := "(Ljava/lang/String;)V" } : Jvm.MethodName)), (Jvm.Cond.lays "java/lang/IllegalArgumentException" "java/lang/Throwable" "depth" "I"), (Jvm.Cond.methodLink "PageLayout" (82 : Nat) ({ cls := "PageLayout$Text", name := "addSign", desc := "(III)I" } : Jvm.MethodName)), (Jvm.Cond.instanceMethod ({ cls := "PageLayout$Text", name := "addSign", desc := "(III)I" } : Jvm.MethodName)), (Jvm.Cond.selects "PageLayout$Text" ({ cls := "PageLayout$Text", name := "addSign", desc := "(III)I" } : Jvm.MethodName) ({ cls := "PageLayout$Text", name := "addSign", desc := "(III)I" } : Jvm.MethodName)), (Jvm.Cond.code ({ cls := "PageLayout$Text", name := "addSign", desc := "(III)I" } : Jvm.MethodName) prog_7_method_3_code (4 : Nat) (Option.some Jvm.ClassFile.FieldType.int)), (Jvm.Cond.methodLink "PageLayoutLaw" (67 : Nat) ({ cls := "PageLayoutLaw", name := "shape", desc := "(LPageLayout;III)I" } : Jvm.MethodName)), (Jvm.Cond.static ({ cls := "PageLayoutLaw", name := "shape", desc := "(LPageLayout;III)I" } : Jvm.MethodName)), (Jvm.Cond.methodLink "PageLayoutLaw" (23 : Nat) ({ cls := "PageLayout", name := "shape", desc := "(III)V" } : Jvm.MethodName)), (Jvm.Cond.instanceMethod ({ cls := "PageLayout", name := "shape", desc := "(III)V" } : Jvm.MethodName)), (Jvm.Cond.selects "PageLayout" ({ cls := "PageLayout", name := "shape", desc := "(III)V" } : Jvm.MethodName) ({ cls := "PageLayout", name := "shape", desc := "(III)V" } : Jvm.MethodName)), (Jvm.Cond.code ({ cls := "PageLayout", name := "shape", desc := "(III)V" } : Jvm.MethodName) prog_1_method_5_code (4 : Nat) (Option.none : Option Jvm.ClassFile.FieldType)), (Jvm.Cond.fieldLink "PageLayout" (88 : Nat) "PageLayout" "SHAPE_FROM" "[I"), (Jvm.Cond.fieldLink "PageLayout" (92 : Nat) "PageLayout" "SHAPE_TO" "[I"), (Jvm.Cond.methodLink "PageLayoutLaw" (71 : Nat) ({ cls := "PageLayoutLaw", name := "stop", desc := "(LPageLayout;III[J)I" } : Jvm.MethodName)), (Jvm.Cond.static ({ cls := "PageLayoutLaw", name := "stop", desc := "(LPageLayout;III[J)I" } : Jvm.MethodName)), (Jvm.Cond.methodLink "PageLayoutLaw" (27 : Nat) ({ cls := "PageLayout", name := "stop", desc := "(III)I" } : Jvm.MethodName)), (Jvm.Cond.instanceMethod ({ cls := "PageLayout", name := "stop", desc := "(III)I" } : Jvm.MethodName)), (Jvm.Cond.selects "PageLayout" ({ cls := "PageLayout", name := "stop", desc := "(III)I" } : Jvm.MethodName) ({ cls := "PageLayout", name := "stop", desc := "(III)I" } : Jvm.MethodName)), (Jvm.Cond.code ({ cls := "PageLayout", name := "stop", desc := "(III)I" } : Jvm.MethodName) prog_1_method_6_code (5 : Nat) (Option.some Jvm.ClassFile.FieldType.int)), (Jvm.Cond.methodLink "PageLayout" (106 : Nat) ({ cls := "PageLayout$Paragraph", name := "lastStop", desc := "()I" } : Jvm.MethodName)), (Jvm.Cond.methodLink "PageLayout" (116 : Nat) ({ cls := "PageLayout$Paragraph", name := "addStop", desc := "(II)I" } : Jvm.MethodName)), (Jvm.Cond.instanceMethod ({ cls := "PageLayout$Paragraph", name := "addStop", desc := "(II)I" } : Jvm.MethodName)), (Jvm.Cond.selects "PageLayout$Paragraph" ({ cls := "PageLayout$Paragraph", name := "addStop", desc := "(II)I" } : Jvm.MethodName) ({ cls := "PageLayout$Paragraph", name := "addStop", desc := "(II)I" } : Jvm.MethodName)), (Jvm.Cond.code ({ cls := "PageLayout$Paragraph", name := "addStop", desc := "(II)I" } : Jvm.MethodName) prog_4_method_4_code (3 : Nat) (Option.some Jvm.ClassFile.FieldType.int))]
theorem gt_11_in : ∀ w ∈ gt_11, w ∈ lw_tbl := List.forall_mem_cons.mpr ⟨List.mem_of_getElem? (i := 538) (by decide +kernel), List.forall_mem_cons.mpr ⟨List.mem_of_getElem? (i := 540) (by decide +kernel), List.forall_mem_cons.mpr ⟨List.mem_of_getElem? (i := 541) (by decide +kernel), List.forall_mem_cons.mpr ⟨List.mem_of_getElem? (i := 542) (by decide +kernel), List.forall_mem_cons.mpr ⟨List.mem_of_getElem? (i := 543) (by decide +kernel), List.forall_mem_cons.mpr ⟨List.mem_of_getElem? (i := 544) (by decide +kernel), List.forall_mem_cons.mpr ⟨List.mem_of_getElem? (i := 546) (by decide +kernel), List.forall_mem_cons.mpr ⟨List.mem_of_getElem? (i := 547) (by decide +kernel), List.forall_mem_cons.mpr ⟨List.mem_of_getElem? (i := 548) (by decide +kernel), List.forall_mem_cons.mpr ⟨List.mem_of_getElem? (i := 549) (by decide +kernel), List.forall_mem_cons.mpr ⟨List.mem_of_getElem? (i := 550) (by decide +kernel), List.forall_mem_cons.mpr ⟨List.mem_of_getElem? (i := 551) (by decide +kernel), List.forall_mem_cons.mpr ⟨List.mem_of_getElem? (i := 553) (by decide +kernel), List.forall_mem_cons.mpr ⟨List.mem_of_getElem? (i := 554) (by decide +kernel), List.forall_mem_cons.mpr ⟨List.mem_of_getElem? (i := 555) (by decide +kernel), List.forall_mem_cons.mpr ⟨List.mem_of_getElem? (i := 556) (by decide +kernel), List.forall_mem_cons.mpr ⟨List.mem_of_getElem? (i := 557) (by decide +kernel), List.forall_mem_cons.mpr ⟨List.mem_of_getElem? (i := 560) (by decide +kernel), List.forall_mem_cons.mpr ⟨List.mem_of_getElem? (i := 561) (by decide +kernel), List.forall_mem_cons.mpr ⟨List.mem_of_getElem? (i := 562) (by decide +kernel), List.forall_mem_cons.mpr ⟨List.mem_of_getElem? (i := 563) (by decide +kernel), List.forall_mem_cons.mpr ⟨List.mem_of_getElem? (i := 564) (by decide +kernel), List.forall_mem_cons.mpr ⟨List.mem_of_getElem? (i := 565) (by decide +kernel), List.forall_mem_cons.mpr ⟨List.mem_of_getElem? (i := 567) (by decide +kernel), List.forall_mem_cons.mpr ⟨List.mem_of_getElem? (i := 568) (by decide +kernel), List.forall_mem_cons.mpr ⟨List.mem_of_getElem? (i := 569) (by decide +kernel), List.forall_mem_cons.mpr ⟨List.mem_of_getElem? (i := 570) (by decide +kernel), List.forall_mem_cons.mpr ⟨List.mem_of_getElem? (i := 572) (by decide +kernel), List.forall_mem_cons.mpr ⟨List.mem_of_getElem? (i := 574) (by decide +kernel), List.forall_mem_cons.mpr ⟨List.mem_of_getElem? (i := 577) (by decide +kernel), List.forall_mem_cons.mpr ⟨List.mem_of_getElem? (i := 578) (by decide +kernel), List.forall_mem_cons.mpr ⟨List.mem_of_getElem? (i := 580) (by decide +kernel), List.forall_mem_cons.mpr ⟨List.mem_of_getElem? (i := 581) (by decide +kernel), List.forall_mem_cons.mpr ⟨List.mem_of_getElem? (i := 582) (by decide +kernel), List.forall_mem_cons.mpr ⟨List.mem_of_getElem? (i := 583) (by decide +kernel), List.forall_mem_cons.mpr ⟨List.mem_of_getElem? (i := 584) (by decide +kernel), List.forall_mem_cons.mpr ⟨List.mem_of_getElem? (i := 587) (by decide +kernel), List.forall_mem_cons.mpr ⟨List.mem_of_getElem? (i := 588) (by decide +kernel), List.forall_mem_cons.mpr ⟨List.mem_of_getElem? (i := 589) (by decide +kernel), List.forall_mem_cons.mpr ⟨List.mem_of_getElem? (i := 590) (by decide +kernel), fun _ h => absurd h List.not_mem_nil⟩⟩⟩⟩⟩⟩⟩⟩⟩⟩⟩⟩⟩⟩⟩⟩⟩⟩⟩⟩⟩⟩⟩⟩⟩⟩⟩⟩⟩⟩⟩⟩⟩⟩⟩⟩⟩⟩⟩⟩
theorem gt_11_ok : ∀ w ∈ gt_11, (w.onTables && w.keeps) = true := by decide +kernel
def gt_12 : List Cond := [(Jvm.Cond.methodLink "PageLayoutLaw" (74 : Nat) ({ cls := "PageLayoutLaw", name := "sheet", desc := "(LPageLayout;III)I" } : Jvm.MethodName)), (Jvm.Cond.static ({ cls := "PageLayoutLaw", name := "sheet", desc := "(LPageLayout;III)I" } : Jvm.MethodName)), (Jvm.Cond.methodLink "PageLayoutLaw" (30 : Nat) ({ cls := "PageLayout", name := "sheet", desc := "(III)V" } : Jvm.MethodName)), (Jvm.Cond.instanceMethod ({ cls := "PageLayout", name := "sheet", desc := "(III)V" } : Jvm.MethodName)), (Jvm.Cond.selects "PageLayout" ({ cls := "PageLayout", name := "sheet", desc := "(III)V" } : Jvm.MethodName) ({ cls := "PageLayout", name := "sheet", desc := "(III)V" } : Jvm.MethodName)), (Jvm.Cond.code ({ cls := "PageLayout", name := "sheet", desc := "(III)V" } : Jvm.MethodName) prog_1_method_7_code (4 : Nat) (Option.none : Option Jvm.ClassFile.FieldType)), (Jvm.Cond.methodLink "PageLayoutLaw" (86 : Nat) ({ cls := "PageLayoutLaw", name := "line", desc := "(LPageLayout;II[J)I" } : Jvm.MethodName)), (Jvm.Cond.static ({ cls := "PageLayoutLaw", name := "line", desc := "(LPageLayout;II[J)I" } : Jvm.MethodName)), (Jvm.Cond.methodLink "PageLayoutLaw" (33 : Nat) ({ cls := "PageLayout", name := "line", desc := "(II)I" } : Jvm.MethodName)), (Jvm.Cond.instanceMethod ({ cls := "PageLayout", name := "line", desc := "(II)I" } : Jvm.MethodName)), (Jvm.Cond.selects "PageLayout" ({ cls := "PageLayout", name := "line", desc := "(II)I" } : Jvm.MethodName) ({ cls := "PageLayout", name := "line", desc := "(II)I" } : Jvm.MethodName)), (Jvm.Cond.code ({ cls := "PageLayout", name := "line", desc := "(II)I" } : Jvm.MethodName) prog_1_method_10_code (3 : Nat) (Option.some Jvm.ClassFile.FieldType.int)), (Jvm.Cond.methodLink "PageLayoutLaw" (90 : Nat) ({ cls := "PageLayoutLaw", name := "where", desc := "(LPageLayout;II[J)I" } : Jvm.MethodName)), (Jvm.Cond.static ({ cls := "PageLayoutLaw", name := "where", desc := "(LPageLayout;II[J)I" } : Jvm.MethodName)), (Jvm.Cond.methodLink "PageLayoutLaw" (37 : Nat) ({ cls := "PageLayout", name := "where", desc := "(II)I" } : Jvm.MethodName)), (Jvm.Cond.instanceMethod ({ cls := "PageLayout", name := "where", desc := "(II)I" } : Jvm.MethodName)), (Jvm.Cond.selects "PageLayout" ({ cls := "PageLayout", name := "where", desc := "(II)I" } : Jvm.MethodName) ({ cls := "PageLayout", name := "where", desc := "(II)I" } : Jvm.MethodName)), (Jvm.Cond.code ({ cls := "PageLayout", name := "where", desc := "(II)I" } : Jvm.MethodName) prog_1_method_11_code (3 : Nat) (Option.some Jvm.ClassFile.FieldType.int)), (Jvm.Cond.methodLink "PageLayoutLaw" (93 : Nat) ({ cls := "PageLayoutLaw", name := "page", desc := "(LPageLayout;II[J)I" } : Jvm.MethodName)), (Jvm.Cond.static ({ cls := "PageLayoutLaw", name := "page", desc := "(LPageLayout;II[J)I" } : Jvm.MethodName)), (Jvm.Cond.methodLink "PageLayoutLaw" (40 : Nat) ({ cls := "PageLayout", name := "page", desc := "(II)I" } : Jvm.MethodName)), (Jvm.Cond.instanceMethod ({ cls := "PageLayout", name := "page", desc := "(II)I" } : Jvm.MethodName)), (Jvm.Cond.selects "PageLayout" ({ cls := "PageLayout", name := "page", desc := "(II)I" } : Jvm.MethodName) ({ cls := "PageLayout", name := "page", desc := "(II)I" } : Jvm.MethodName)), (Jvm.Cond.code ({ cls := "PageLayout", name := "page", desc := "(II)I" } : Jvm.MethodName) prog_1_method_12_code (3 : Nat) (Option.some Jvm.ClassFile.FieldType.int)), (Jvm.Cond.methodLink "PageLayoutLaw" (96 : Nat) ({ cls := "PageLayoutLaw", name := "hit", desc := "(LPageLayout;III[J)I" } : Jvm.MethodName)), (Jvm.Cond.static ({ cls := "PageLayoutLaw", name := "hit", desc := "(LPageLayout;III[J)I" } : Jvm.MethodName)), (Jvm.Cond.methodLink "PageLayoutLaw" (43 : Nat) ({ cls := "PageLayout", name := "hit", desc := "(III)I" } : Jvm.MethodName)), (Jvm.Cond.instanceMethod ({ cls := "PageLayout", name := "hit", desc := "(III)I" } : Jvm.MethodName)), (Jvm.Cond.selects "PageLayout" ({ cls := "PageLayout", name := "hit", desc := "(III)I" } : Jvm.MethodName) ({ cls := "PageLayout", name := "hit", desc := "(III)I" } : Jvm.MethodName)), (Jvm.Cond.code ({ cls := "PageLayout", name := "hit", desc := "(III)I" } : Jvm.MethodName) prog_1_method_13_code (4 : Nat) (Option.some Jvm.ClassFile.FieldType.int)), (Jvm.Cond.methodLink "PageLayout" (157 : Nat) ({ cls := "PageLayout$Pages", name := "lineAt", desc := "(II)I" } : Jvm.MethodName)), (Jvm.Cond.instanceMethod ({ cls := "PageLayout$Pages", name := "lineAt", desc := "(II)I" } : Jvm.MethodName)), (Jvm.Cond.selects "PageLayout$Pages" ({ cls := "PageLayout$Pages", name := "lineAt", desc := "(II)I" } : Jvm.MethodName) ({ cls := "PageLayout$Pages", name := "lineAt", desc := "(II)I" } : Jvm.MethodName)), (Jvm.Cond.code ({ cls := "PageLayout$Pages", name := "lineAt", desc := "(II)I" } : Jvm.MethodName) prog_3_method_11_code (5 : Nat) (Option.some Jvm.ClassFile.FieldType.int)), (Jvm.Cond.methodLink "PageLayout" (160 : Nat) ({ cls := "PageLayout$Lines", name := "signAhead", desc := "(II)I" } : Jvm.MethodName)), (Jvm.Cond.instanceMethod ({ cls := "PageLayout$Lines", name := "signAhead", desc := "(II)I" } : Jvm.MethodName)), (Jvm.Cond.selects "PageLayout$Lines" ({ cls := "PageLayout$Lines", name := "signAhead", desc := "(II)I" } : Jvm.MethodName) ({ cls := "PageLayout$Lines", name := "signAhead", desc := "(II)I" } : Jvm.MethodName)), (Jvm.Cond.code ({ cls := "PageLayout$Lines", name := "signAhead", desc := "(II)I" } : Jvm.MethodName) prog_2_method_15_code (7 : Nat) (Option.some Jvm.ClassFile.FieldType.int)), (Jvm.Cond.classLink "PageLayoutLaw" (47 : Nat) "PageLayoutModel"), (Jvm.Cond.instantiable "PageLayoutModel" (32 : Nat))]
theorem gt_12_in : ∀ w ∈ gt_12, w ∈ lw_tbl := List.forall_mem_cons.mpr ⟨List.mem_of_getElem? (i := 591) (by decide +kernel), List.forall_mem_cons.mpr ⟨List.mem_of_getElem? (i := 592) (by decide +kernel), List.forall_mem_cons.mpr ⟨List.mem_of_getElem? (i := 594) (by decide +kernel), List.forall_mem_cons.mpr ⟨List.mem_of_getElem? (i := 595) (by decide +kernel), List.forall_mem_cons.mpr ⟨List.mem_of_getElem? (i := 596) (by decide +kernel), List.forall_mem_cons.mpr ⟨List.mem_of_getElem? (i := 597) (by decide +kernel), List.forall_mem_cons.mpr ⟨List.mem_of_getElem? (i := 599) (by decide +kernel), List.forall_mem_cons.mpr ⟨List.mem_of_getElem? (i := 600) (by decide +kernel), List.forall_mem_cons.mpr ⟨List.mem_of_getElem? (i := 602) (by decide +kernel), List.forall_mem_cons.mpr ⟨List.mem_of_getElem? (i := 603) (by decide +kernel), List.forall_mem_cons.mpr ⟨List.mem_of_getElem? (i := 604) (by decide +kernel), List.forall_mem_cons.mpr ⟨List.mem_of_getElem? (i := 605) (by decide +kernel), List.forall_mem_cons.mpr ⟨List.mem_of_getElem? (i := 608) (by decide +kernel), List.forall_mem_cons.mpr ⟨List.mem_of_getElem? (i := 609) (by decide +kernel), List.forall_mem_cons.mpr ⟨List.mem_of_getElem? (i := 611) (by decide +kernel), List.forall_mem_cons.mpr ⟨List.mem_of_getElem? (i := 612) (by decide +kernel), List.forall_mem_cons.mpr ⟨List.mem_of_getElem? (i := 613) (by decide +kernel), List.forall_mem_cons.mpr ⟨List.mem_of_getElem? (i := 614) (by decide +kernel), List.forall_mem_cons.mpr ⟨List.mem_of_getElem? (i := 616) (by decide +kernel), List.forall_mem_cons.mpr ⟨List.mem_of_getElem? (i := 617) (by decide +kernel), List.forall_mem_cons.mpr ⟨List.mem_of_getElem? (i := 619) (by decide +kernel), List.forall_mem_cons.mpr ⟨List.mem_of_getElem? (i := 620) (by decide +kernel), List.forall_mem_cons.mpr ⟨List.mem_of_getElem? (i := 621) (by decide +kernel), List.forall_mem_cons.mpr ⟨List.mem_of_getElem? (i := 622) (by decide +kernel), List.forall_mem_cons.mpr ⟨List.mem_of_getElem? (i := 624) (by decide +kernel), List.forall_mem_cons.mpr ⟨List.mem_of_getElem? (i := 625) (by decide +kernel), List.forall_mem_cons.mpr ⟨List.mem_of_getElem? (i := 627) (by decide +kernel), List.forall_mem_cons.mpr ⟨List.mem_of_getElem? (i := 628) (by decide +kernel), List.forall_mem_cons.mpr ⟨List.mem_of_getElem? (i := 629) (by decide +kernel), List.forall_mem_cons.mpr ⟨List.mem_of_getElem? (i := 630) (by decide +kernel), List.forall_mem_cons.mpr ⟨List.mem_of_getElem? (i := 631) (by decide +kernel), List.forall_mem_cons.mpr ⟨List.mem_of_getElem? (i := 632) (by decide +kernel), List.forall_mem_cons.mpr ⟨List.mem_of_getElem? (i := 633) (by decide +kernel), List.forall_mem_cons.mpr ⟨List.mem_of_getElem? (i := 634) (by decide +kernel), List.forall_mem_cons.mpr ⟨List.mem_of_getElem? (i := 635) (by decide +kernel), List.forall_mem_cons.mpr ⟨List.mem_of_getElem? (i := 636) (by decide +kernel), List.forall_mem_cons.mpr ⟨List.mem_of_getElem? (i := 637) (by decide +kernel), List.forall_mem_cons.mpr ⟨List.mem_of_getElem? (i := 638) (by decide +kernel), List.forall_mem_cons.mpr ⟨List.mem_of_getElem? (i := 639) (by decide +kernel), List.forall_mem_cons.mpr ⟨List.mem_of_getElem? (i := 640) (by decide +kernel), fun _ h => absurd h List.not_mem_nil⟩⟩⟩⟩⟩⟩⟩⟩⟩⟩⟩⟩⟩⟩⟩⟩⟩⟩⟩⟩⟩⟩⟩⟩⟩⟩⟩⟩⟩⟩⟩⟩⟩⟩⟩⟩⟩⟩⟩⟩
theorem gt_12_ok : ∀ w ∈ gt_12, (w.onTables && w.keeps) = true := by decide +kernel
def gt_13 : List Cond := [(Jvm.Cond.methodLink "PageLayoutLaw" (49 : Nat) ({ cls := "PageLayoutModel", name := "<init>", desc := "()V" } : Jvm.MethodName)), (Jvm.Cond.instanceMethod ({ cls := "PageLayoutModel", name := "<init>", desc := "()V" } : Jvm.MethodName)), (Jvm.Cond.code ({ cls := "PageLayoutModel", name := "<init>", desc := "()V" } : Jvm.MethodName) prog_9_method_1_code (1 : Nat) (Option.none : Option Jvm.ClassFile.FieldType)), (Jvm.Cond.methodLink "PageLayoutModel" (1 : Nat) ({ cls := "java/lang/Object", name := "<init>", desc := "()V" } : Jvm.MethodName)), (Jvm.Cond.fieldLink "PageLayoutModel" (92 : Nat) "PageLayoutModel" "code" "I"), (Jvm.Cond.fieldLink "PageLayoutModel" (7 : Nat) "PageLayoutModel" "wide" "I"), (Jvm.Cond.fieldLink "PageLayoutModel" (13 : Nat) "PageLayoutModel" "high" "I"), (Jvm.Cond.fieldLink "PageLayoutModel" (16 : Nat) "PageLayoutModel" "step" "I"), (Jvm.Cond.fieldLink "PageLayoutModel" (95 : Nat) "PageLayoutModel" "paragraphs" "I"), (Jvm.Cond.fieldLink "PageLayoutModel" (19 : Nat) "PageLayoutModel" "begin" "[I"), (Jvm.Cond.fieldLink "PageLayoutModel" (23 : Nat) "PageLayoutModel" "shapes" "[I"), (Jvm.Cond.fieldLink "PageLayoutModel" (26 : Nat) "PageLayoutModel" "stops" "[I"), (Jvm.Cond.fieldLink "PageLayoutModel" (29 : Nat) "PageLayoutModel" "stopAt" "[I"), (Jvm.Cond.fieldLink "PageLayoutModel" (32 : Nat) "PageLayoutModel" "stopKind" "[I"), (Jvm.Cond.fieldLink "PageLayoutModel" (35 : Nat) "PageLayoutModel" "kind" "[I"), (Jvm.Cond.fieldLink "PageLayoutModel" (38 : Nat) "PageLayoutModel" "width" "[I"), (Jvm.Cond.fieldLink "PageLayoutModel" (41 : Nat) "PageLayoutModel" "height" "[I"), (Jvm.Cond.fieldLink "PageLayoutModel" (44 : Nat) "PageLayoutModel" "across" "[I"), (Jvm.Cond.fieldLink "PageLayoutModel" (47 : Nat) "PageLayoutModel" "broad" "[I"), (Jvm.Cond.fieldLink "PageLayoutModel" (98 : Nat) "PageLayoutModel" "laid" "Z"), (Jvm.Cond.fieldLink "PageLayoutModel" (151 : Nat) "PageLayoutModel" "lines" "I"), (Jvm.Cond.fieldLink "PageLayoutModel" (50 : Nat) "PageLayoutModel" "paragraphOf" "[I"), (Jvm.Cond.fieldLink "PageLayoutModel" (53 : Nat) "PageLayoutModel" "firstOf" "[I"), (Jvm.Cond.fieldLink "PageLayoutModel" (56 : Nat) "PageLayoutModel" "manyOf" "[I"), (Jvm.Cond.fieldLink "PageLayoutModel" (59 : Nat) "PageLayoutModel" "beginOf" "[I"), (Jvm.Cond.fieldLink "PageLayoutModel" (62 : Nat) "PageLayoutModel" "endOf" "[I"), (Jvm.Cond.fieldLink "PageLayoutModel" (65 : Nat) "PageLayoutModel" "heightOf" "[I"), (Jvm.Cond.fieldLink "PageLayoutModel" (68 : Nat) "PageLayoutModel" "pageOf" "[I"), (Jvm.Cond.fieldLink "PageLayoutModel" (71 : Nat) "PageLayoutModel" "downOf" "[I"), (Jvm.Cond.fieldLink "PageLayoutModel" (74 : Nat) "PageLayoutModel" "movedOf" "[I"), (Jvm.Cond.fieldLink "PageLayoutModel" (77 : Nat) "PageLayoutModel" "widerOf" "[I"), (Jvm.Cond.fieldLink "PageLayoutModel" (80 : Nat) "PageLayoutModel" "lineOf" "[I"), (Jvm.Cond.fieldLink "PageLayoutModel" (83 : Nat) "PageLayoutModel" "placeOf" "[I"), (Jvm.Cond.fieldLink "PageLayoutModel" (86 : Nat) "PageLayoutModel" "broadOf" "[I"), (Jvm.Cond.fieldLink "PageLayoutModel" (166 : Nat) "PageLayoutModel" "pages" "I"), (Jvm.Cond.fieldLink "PageLayoutModel" (89 : Nat) "PageLayoutModel" "pageFirst" "[I"), (Jvm.Cond.lays "PageLayoutModel" "PageLayoutModel" "code" "I"), (Jvm.Cond.lays "PageLayoutModel" "PageLayoutModel" "wide" "I"), (Jvm.Cond.lays "PageLayoutModel" "PageLayoutModel" "high" "I"), (Jvm.Cond.lays "PageLayoutModel" "PageLayoutModel" "step" "I")]
theorem gt_13_in : ∀ w ∈ gt_13, w ∈ lw_tbl := List.forall_mem_cons.mpr ⟨List.mem_of_getElem? (i := 641) (by decide +kernel), List.forall_mem_cons.mpr ⟨List.mem_of_getElem? (i := 642) (by decide +kernel), List.forall_mem_cons.mpr ⟨List.mem_of_getElem? (i := 643) (by decide +kernel), List.forall_mem_cons.mpr ⟨List.mem_of_getElem? (i := 644) (by decide +kernel), List.forall_mem_cons.mpr ⟨List.mem_of_getElem? (i := 645) (by decide +kernel), List.forall_mem_cons.mpr ⟨List.mem_of_getElem? (i := 646) (by decide +kernel), List.forall_mem_cons.mpr ⟨List.mem_of_getElem? (i := 647) (by decide +kernel), List.forall_mem_cons.mpr ⟨List.mem_of_getElem? (i := 648) (by decide +kernel), List.forall_mem_cons.mpr ⟨List.mem_of_getElem? (i := 649) (by decide +kernel), List.forall_mem_cons.mpr ⟨List.mem_of_getElem? (i := 650) (by decide +kernel), List.forall_mem_cons.mpr ⟨List.mem_of_getElem? (i := 651) (by decide +kernel), List.forall_mem_cons.mpr ⟨List.mem_of_getElem? (i := 652) (by decide +kernel), List.forall_mem_cons.mpr ⟨List.mem_of_getElem? (i := 653) (by decide +kernel), List.forall_mem_cons.mpr ⟨List.mem_of_getElem? (i := 654) (by decide +kernel), List.forall_mem_cons.mpr ⟨List.mem_of_getElem? (i := 655) (by decide +kernel), List.forall_mem_cons.mpr ⟨List.mem_of_getElem? (i := 656) (by decide +kernel), List.forall_mem_cons.mpr ⟨List.mem_of_getElem? (i := 657) (by decide +kernel), List.forall_mem_cons.mpr ⟨List.mem_of_getElem? (i := 658) (by decide +kernel), List.forall_mem_cons.mpr ⟨List.mem_of_getElem? (i := 659) (by decide +kernel), List.forall_mem_cons.mpr ⟨List.mem_of_getElem? (i := 660) (by decide +kernel), List.forall_mem_cons.mpr ⟨List.mem_of_getElem? (i := 661) (by decide +kernel), List.forall_mem_cons.mpr ⟨List.mem_of_getElem? (i := 662) (by decide +kernel), List.forall_mem_cons.mpr ⟨List.mem_of_getElem? (i := 663) (by decide +kernel), List.forall_mem_cons.mpr ⟨List.mem_of_getElem? (i := 664) (by decide +kernel), List.forall_mem_cons.mpr ⟨List.mem_of_getElem? (i := 665) (by decide +kernel), List.forall_mem_cons.mpr ⟨List.mem_of_getElem? (i := 666) (by decide +kernel), List.forall_mem_cons.mpr ⟨List.mem_of_getElem? (i := 667) (by decide +kernel), List.forall_mem_cons.mpr ⟨List.mem_of_getElem? (i := 668) (by decide +kernel), List.forall_mem_cons.mpr ⟨List.mem_of_getElem? (i := 669) (by decide +kernel), List.forall_mem_cons.mpr ⟨List.mem_of_getElem? (i := 670) (by decide +kernel), List.forall_mem_cons.mpr ⟨List.mem_of_getElem? (i := 671) (by decide +kernel), List.forall_mem_cons.mpr ⟨List.mem_of_getElem? (i := 672) (by decide +kernel), List.forall_mem_cons.mpr ⟨List.mem_of_getElem? (i := 673) (by decide +kernel), List.forall_mem_cons.mpr ⟨List.mem_of_getElem? (i := 674) (by decide +kernel), List.forall_mem_cons.mpr ⟨List.mem_of_getElem? (i := 675) (by decide +kernel), List.forall_mem_cons.mpr ⟨List.mem_of_getElem? (i := 676) (by decide +kernel), List.forall_mem_cons.mpr ⟨List.mem_of_getElem? (i := 677) (by decide +kernel), List.forall_mem_cons.mpr ⟨List.mem_of_getElem? (i := 679) (by decide +kernel), List.forall_mem_cons.mpr ⟨List.mem_of_getElem? (i := 681) (by decide +kernel), List.forall_mem_cons.mpr ⟨List.mem_of_getElem? (i := 683) (by decide +kernel), fun _ h => absurd h List.not_mem_nil⟩⟩⟩⟩⟩⟩⟩⟩⟩⟩⟩⟩⟩⟩⟩⟩⟩⟩⟩⟩⟩⟩⟩⟩⟩⟩⟩⟩⟩⟩⟩⟩⟩⟩⟩⟩⟩⟩⟩⟩
theorem gt_13_ok : ∀ w ∈ gt_13, (w.onTables && w.keeps) = true := by decide +kernel
def gt_14 : List Cond := [(Jvm.Cond.lays "PageLayoutModel" "PageLayoutModel" "paragraphs" "I"), (Jvm.Cond.laysFinal "PageLayoutModel" "PageLayoutModel" "begin" "[I"), (Jvm.Cond.laysFinal "PageLayoutModel" "PageLayoutModel" "shapes" "[I"), (Jvm.Cond.laysFinal "PageLayoutModel" "PageLayoutModel" "stops" "[I"), (Jvm.Cond.laysFinal "PageLayoutModel" "PageLayoutModel" "stopAt" "[I"), (Jvm.Cond.laysFinal "PageLayoutModel" "PageLayoutModel" "stopKind" "[I"), (Jvm.Cond.laysFinal "PageLayoutModel" "PageLayoutModel" "kind" "[I"), (Jvm.Cond.laysFinal "PageLayoutModel" "PageLayoutModel" "width" "[I"), (Jvm.Cond.laysFinal "PageLayoutModel" "PageLayoutModel" "height" "[I"), (Jvm.Cond.laysFinal "PageLayoutModel" "PageLayoutModel" "across" "[I"), (Jvm.Cond.laysFinal "PageLayoutModel" "PageLayoutModel" "broad" "[I"), (Jvm.Cond.lays "PageLayoutModel" "PageLayoutModel" "laid" "Z"), (Jvm.Cond.lays "PageLayoutModel" "PageLayoutModel" "lines" "I"), (Jvm.Cond.laysFinal "PageLayoutModel" "PageLayoutModel" "paragraphOf" "[I"), (Jvm.Cond.laysFinal "PageLayoutModel" "PageLayoutModel" "firstOf" "[I"), (Jvm.Cond.laysFinal "PageLayoutModel" "PageLayoutModel" "manyOf" "[I"), (Jvm.Cond.laysFinal "PageLayoutModel" "PageLayoutModel" "beginOf" "[I"), (Jvm.Cond.laysFinal "PageLayoutModel" "PageLayoutModel" "endOf" "[I"), (Jvm.Cond.laysFinal "PageLayoutModel" "PageLayoutModel" "heightOf" "[I"), (Jvm.Cond.laysFinal "PageLayoutModel" "PageLayoutModel" "pageOf" "[I"), (Jvm.Cond.laysFinal "PageLayoutModel" "PageLayoutModel" "downOf" "[I"), (Jvm.Cond.laysFinal "PageLayoutModel" "PageLayoutModel" "movedOf" "[I"), (Jvm.Cond.laysFinal "PageLayoutModel" "PageLayoutModel" "widerOf" "[I"), (Jvm.Cond.laysFinal "PageLayoutModel" "PageLayoutModel" "lineOf" "[I"), (Jvm.Cond.laysFinal "PageLayoutModel" "PageLayoutModel" "placeOf" "[I"), (Jvm.Cond.laysFinal "PageLayoutModel" "PageLayoutModel" "broadOf" "[I"), (Jvm.Cond.lays "PageLayoutModel" "PageLayoutModel" "pages" "I"), (Jvm.Cond.laysFinal "PageLayoutModel" "PageLayoutModel" "pageFirst" "[I"), (Jvm.Cond.methodLink "PageLayoutLaw" (60 : Nat) ({ cls := "PageLayoutModel", name := "thrown", desc := "()I" } : Jvm.MethodName)), (Jvm.Cond.instanceMethod ({ cls := "PageLayoutModel", name := "thrown", desc := "()I" } : Jvm.MethodName)), (Jvm.Cond.selects "PageLayoutModel" ({ cls := "PageLayoutModel", name := "thrown", desc := "()I" } : Jvm.MethodName) ({ cls := "PageLayoutModel", name := "thrown", desc := "()I" } : Jvm.MethodName)), (Jvm.Cond.code ({ cls := "PageLayoutModel", name := "thrown", desc := "()I" } : Jvm.MethodName) prog_9_method_2_code (1 : Nat) (Option.some Jvm.ClassFile.FieldType.int)), (Jvm.Cond.methodLink "PageLayoutLaw" (53 : Nat) ({ cls := "PageLayoutModel", name := "clear", desc := "()V" } : Jvm.MethodName)), (Jvm.Cond.instanceMethod ({ cls := "PageLayoutModel", name := "clear", desc := "()V" } : Jvm.MethodName)), (Jvm.Cond.selects "PageLayoutModel" ({ cls := "PageLayoutModel", name := "clear", desc := "()V" } : Jvm.MethodName) ({ cls := "PageLayoutModel", name := "clear", desc := "()V" } : Jvm.MethodName)), (Jvm.Cond.code ({ cls := "PageLayoutModel", name := "clear", desc := "()V" } : Jvm.MethodName) prog_9_method_5_code (1 : Nat) (Option.none : Option Jvm.ClassFile.FieldType)), (Jvm.Cond.methodLink "PageLayoutLaw" (59 : Nat) ({ cls := "PageLayoutModel", name := "paragraph", desc := "()I" } : Jvm.MethodName)), (Jvm.Cond.instanceMethod ({ cls := "PageLayoutModel", name := "paragraph", desc := "()I" } : Jvm.MethodName)), (Jvm.Cond.selects "PageLayoutModel" ({ cls := "PageLayoutModel", name := "paragraph", desc := "()I" } : Jvm.MethodName) ({ cls := "PageLayoutModel", name := "paragraph", desc := "()I" } : Jvm.MethodName)), (Jvm.Cond.code ({ cls := "PageLayoutModel", name := "paragraph", desc := "()I" } : Jvm.MethodName) prog_9_method_6_code (3 : Nat) (Option.some Jvm.ClassFile.FieldType.int))]
theorem gt_14_in : ∀ w ∈ gt_14, w ∈ lw_tbl := List.forall_mem_cons.mpr ⟨List.mem_of_getElem? (i := 685) (by decide +kernel), List.forall_mem_cons.mpr ⟨List.mem_of_getElem? (i := 687) (by decide +kernel), List.forall_mem_cons.mpr ⟨List.mem_of_getElem? (i := 689) (by decide +kernel), List.forall_mem_cons.mpr ⟨List.mem_of_getElem? (i := 691) (by decide +kernel), List.forall_mem_cons.mpr ⟨List.mem_of_getElem? (i := 693) (by decide +kernel), List.forall_mem_cons.mpr ⟨List.mem_of_getElem? (i := 695) (by decide +kernel), List.forall_mem_cons.mpr ⟨List.mem_of_getElem? (i := 697) (by decide +kernel), List.forall_mem_cons.mpr ⟨List.mem_of_getElem? (i := 699) (by decide +kernel), List.forall_mem_cons.mpr ⟨List.mem_of_getElem? (i := 701) (by decide +kernel), List.forall_mem_cons.mpr ⟨List.mem_of_getElem? (i := 703) (by decide +kernel), List.forall_mem_cons.mpr ⟨List.mem_of_getElem? (i := 705) (by decide +kernel), List.forall_mem_cons.mpr ⟨List.mem_of_getElem? (i := 707) (by decide +kernel), List.forall_mem_cons.mpr ⟨List.mem_of_getElem? (i := 709) (by decide +kernel), List.forall_mem_cons.mpr ⟨List.mem_of_getElem? (i := 711) (by decide +kernel), List.forall_mem_cons.mpr ⟨List.mem_of_getElem? (i := 713) (by decide +kernel), List.forall_mem_cons.mpr ⟨List.mem_of_getElem? (i := 715) (by decide +kernel), List.forall_mem_cons.mpr ⟨List.mem_of_getElem? (i := 717) (by decide +kernel), List.forall_mem_cons.mpr ⟨List.mem_of_getElem? (i := 719) (by decide +kernel), List.forall_mem_cons.mpr ⟨List.mem_of_getElem? (i := 721) (by decide +kernel), List.forall_mem_cons.mpr ⟨List.mem_of_getElem? (i := 723) (by decide +kernel), List.forall_mem_cons.mpr ⟨List.mem_of_getElem? (i := 725) (by decide +kernel), List.forall_mem_cons.mpr ⟨List.mem_of_getElem? (i := 727) (by decide +kernel), List.forall_mem_cons.mpr ⟨List.mem_of_getElem? (i := 729) (by decide +kernel), List.forall_mem_cons.mpr ⟨List.mem_of_getElem? (i := 731) (by decide +kernel), List.forall_mem_cons.mpr ⟨List.mem_of_getElem? (i := 733) (by decide +kernel), List.forall_mem_cons.mpr ⟨List.mem_of_getElem? (i := 735) (by decide +kernel), List.forall_mem_cons.mpr ⟨List.mem_of_getElem? (i := 737) (by decide +kernel), List.forall_mem_cons.mpr ⟨List.mem_of_getElem? (i := 739) (by decide +kernel), List.forall_mem_cons.mpr ⟨List.mem_of_getElem? (i := 742) (by decide +kernel), List.forall_mem_cons.mpr ⟨List.mem_of_getElem? (i := 743) (by decide +kernel), List.forall_mem_cons.mpr ⟨List.mem_of_getElem? (i := 744) (by decide +kernel), List.forall_mem_cons.mpr ⟨List.mem_of_getElem? (i := 745) (by decide +kernel), List.forall_mem_cons.mpr ⟨List.mem_of_getElem? (i := 746) (by decide +kernel), List.forall_mem_cons.mpr ⟨List.mem_of_getElem? (i := 747) (by decide +kernel), List.forall_mem_cons.mpr ⟨List.mem_of_getElem? (i := 748) (by decide +kernel), List.forall_mem_cons.mpr ⟨List.mem_of_getElem? (i := 749) (by decide +kernel), List.forall_mem_cons.mpr ⟨List.mem_of_getElem? (i := 750) (by decide +kernel), List.forall_mem_cons.mpr ⟨List.mem_of_getElem? (i := 751) (by decide +kernel), List.forall_mem_cons.mpr ⟨List.mem_of_getElem? (i := 752) (by decide +kernel), List.forall_mem_cons.mpr ⟨List.mem_of_getElem? (i := 753) (by decide +kernel), fun _ h => absurd h List.not_mem_nil⟩⟩⟩⟩⟩⟩⟩⟩⟩⟩⟩⟩⟩⟩⟩⟩⟩⟩⟩⟩⟩⟩⟩⟩⟩⟩⟩⟩⟩⟩⟩⟩⟩⟩⟩⟩⟩⟩⟩⟩
theorem gt_14_ok : ∀ w ∈ gt_14, (w.onTables && w.keeps) = true := by decide +kernel
def gt_15 : List Cond := [(Jvm.Cond.methodLink "PageLayoutLaw" (66 : Nat) ({ cls := "PageLayoutModel", name := "sign", desc := "(III)I" } : Jvm.MethodName)), (Jvm.Cond.instanceMethod ({ cls := "PageLayoutModel", name := "sign", desc := "(III)I" } : Jvm.MethodName)), (Jvm.Cond.selects "PageLayoutModel" ({ cls := "PageLayoutModel", name := "sign", desc := "(III)I" } : Jvm.MethodName) ({ cls := "PageLayoutModel", name := "sign", desc := "(III)I" } : Jvm.MethodName)), (Jvm.Cond.code ({ cls := "PageLayoutModel", name := "sign", desc := "(III)I" } : Jvm.MethodName) prog_9_method_7_code (5 : Nat) (Option.some Jvm.ClassFile.FieldType.int)), (Jvm.Cond.methodLink "PageLayoutModel" (102 : Nat) ({ cls := "PageLayoutModel", name := "in", desc := "(III)Z" } : Jvm.MethodName)), (Jvm.Cond.static ({ cls := "PageLayoutModel", name := "in", desc := "(III)Z" } : Jvm.MethodName)), (Jvm.Cond.code ({ cls := "PageLayoutModel", name := "in", desc := "(III)Z" } : Jvm.MethodName) prog_9_method_4_code (3 : Nat) (Option.some Jvm.ClassFile.FieldType.boolean)), (Jvm.Cond.methodLink "PageLayoutLaw" (70 : Nat) ({ cls := "PageLayoutModel", name := "shape", desc := "(III)V" } : Jvm.MethodName)), (Jvm.Cond.instanceMethod ({ cls := "PageLayoutModel", name := "shape", desc := "(III)V" } : Jvm.MethodName)), (Jvm.Cond.selects "PageLayoutModel" ({ cls := "PageLayoutModel", name := "shape", desc := "(III)V" } : Jvm.MethodName) ({ cls := "PageLayoutModel", name := "shape", desc := "(III)V" } : Jvm.MethodName)), (Jvm.Cond.code ({ cls := "PageLayoutModel", name := "shape", desc := "(III)V" } : Jvm.MethodName) prog_9_method_11_code (4 : Nat) (Option.none : Option Jvm.ClassFile.FieldType)), (Jvm.Cond.methodLink "PageLayoutModel" (106 : Nat) ({ cls := "PageLayoutModel", name := "isParagraph", desc := "(I)Z" } : Jvm.MethodName)), (Jvm.Cond.instanceMethod ({ cls := "PageLayoutModel", name := "isParagraph", desc := "(I)Z" } : Jvm.MethodName)), (Jvm.Cond.code ({ cls := "PageLayoutModel", name := "isParagraph", desc := "(I)Z" } : Jvm.MethodName) prog_9_method_10_code (2 : Nat) (Option.some Jvm.ClassFile.FieldType.boolean)), (Jvm.Cond.methodLink "PageLayoutModel" (110 : Nat) ({ cls := "PageLayoutModel", name := "least", desc := "(I)I" } : Jvm.MethodName)), (Jvm.Cond.static ({ cls := "PageLayoutModel", name := "least", desc := "(I)I" } : Jvm.MethodName)), (Jvm.Cond.code ({ cls := "PageLayoutModel", name := "least", desc := "(I)I" } : Jvm.MethodName) prog_9_method_8_code (1 : Nat) (Option.some Jvm.ClassFile.FieldType.int)), (Jvm.Cond.methodLink "PageLayoutModel" (114 : Nat) ({ cls := "PageLayoutModel", name := "most", desc := "(I)I" } : Jvm.MethodName)), (Jvm.Cond.static ({ cls := "PageLayoutModel", name := "most", desc := "(I)I" } : Jvm.MethodName)), (Jvm.Cond.code ({ cls := "PageLayoutModel", name := "most", desc := "(I)I" } : Jvm.MethodName) prog_9_method_9_code (1 : Nat) (Option.some Jvm.ClassFile.FieldType.int)), (Jvm.Cond.methodLink "PageLayoutLaw" (73 : Nat) ({ cls := "PageLayoutModel", name := "stop", desc := "(III)I" } : Jvm.MethodName)), (Jvm.Cond.instanceMethod ({ cls := "PageLayoutModel", name := "stop", desc := "(III)I" } : Jvm.MethodName)), (Jvm.Cond.selects "PageLayoutModel" ({ cls := "PageLayoutModel", name := "stop", desc := "(III)I" } : Jvm.MethodName) ({ cls := "PageLayoutModel", name := "stop", desc := "(III)I" } : Jvm.MethodName)), (Jvm.Cond.code ({ cls := "PageLayoutModel", name := "stop", desc := "(III)I" } : Jvm.MethodName) prog_9_method_12_code (5 : Nat) (Option.some Jvm.ClassFile.FieldType.int)), (Jvm.Cond.methodLink "PageLayoutModel" (117 : Nat) ({ cls := "PageLayoutModel", name := "raise", desc := "(I)I" } : Jvm.MethodName)), (Jvm.Cond.instanceMethod ({ cls := "PageLayoutModel", name := "raise", desc := "(I)I" } : Jvm.MethodName)), (Jvm.Cond.code ({ cls := "PageLayoutModel", name := "raise", desc := "(I)I" } : Jvm.MethodName) prog_9_method_3_code (2 : Nat) (Option.some Jvm.ClassFile.FieldType.int)), (Jvm.Cond.methodLink "PageLayoutLaw" (76 : Nat) ({ cls := "PageLayoutModel", name := "sheet", desc := "(III)V" } : Jvm.MethodName)), (Jvm.Cond.instanceMethod ({ cls := "PageLayoutModel", name := "sheet", desc := "(III)V" } : Jvm.MethodName)), (Jvm.Cond.selects "PageLayoutModel" ({ cls := "PageLayoutModel", name := "sheet", desc := "(III)V" } : Jvm.MethodName) ({ cls := "PageLayoutModel", name := "sheet", desc := "(III)V" } : Jvm.MethodName)), (Jvm.Cond.code ({ cls := "PageLayoutModel", name := "sheet", desc := "(III)V" } : Jvm.MethodName) prog_9_method_13_code (4 : Nat) (Option.none : Option Jvm.ClassFile.FieldType)), (Jvm.Cond.methodLink "PageLayoutLaw" (80 : Nat) ({ cls := "PageLayoutModel", name := "lay", desc := "()I" } : Jvm.MethodName)), (Jvm.Cond.instanceMethod ({ cls := "PageLayoutModel", name := "lay", desc := "()I" } : Jvm.MethodName)), (Jvm.Cond.selects "PageLayoutModel" ({ cls := "PageLayoutModel", name := "lay", desc := "()I" } : Jvm.MethodName) ({ cls := "PageLayoutModel", name := "lay", desc := "()I" } : Jvm.MethodName)), (Jvm.Cond.code ({ cls := "PageLayoutModel", name := "lay", desc := "()I" } : Jvm.MethodName) prog_9_method_30_code (5 : Nat) (Option.some Jvm.ClassFile.FieldType.int)), (Jvm.Cond.methodLink "PageLayoutModel" (169 : Nat) ({ cls := "PageLayoutModel", name := "broken", desc := "(II)I" } : Jvm.MethodName)), (Jvm.Cond.instanceMethod ({ cls := "PageLayoutModel", name := "broken", desc := "(II)I" } : Jvm.MethodName)), (Jvm.Cond.code ({ cls := "PageLayoutModel", name := "broken", desc := "(II)I" } : Jvm.MethodName) prog_9_method_23_code (7 : Nat) (Option.some Jvm.ClassFile.FieldType.int)), (Jvm.Cond.methodLink "PageLayoutModel" (120 : Nat) ({ cls := "PageLayoutModel", name := "isEnd", desc := "(I)Z" } : Jvm.MethodName)), (Jvm.Cond.instanceMethod ({ cls := "PageLayoutModel", name := "isEnd", desc := "(I)Z" } : Jvm.MethodName))]
theorem gt_15_in : ∀ w ∈ gt_15, w ∈ lw_tbl := List.forall_mem_cons.mpr ⟨List.mem_of_getElem? (i := 754) (by decide +kernel), List.forall_mem_cons.mpr ⟨List.mem_of_getElem? (i := 755) (by decide +kernel), List.forall_mem_cons.mpr ⟨List.mem_of_getElem? (i := 756) (by decide +kernel), List.forall_mem_cons.mpr ⟨List.mem_of_getElem? (i := 757) (by decide +kernel), List.forall_mem_cons.mpr ⟨List.mem_of_getElem? (i := 758) (by decide +kernel), List.forall_mem_cons.mpr ⟨List.mem_of_getElem? (i := 759) (by decide +kernel), List.forall_mem_cons.mpr ⟨List.mem_of_getElem? (i := 760) (by decide +kernel), List.forall_mem_cons.mpr ⟨List.mem_of_getElem? (i := 761) (by decide +kernel), List.forall_mem_cons.mpr ⟨List.mem_of_getElem? (i := 762) (by decide +kernel), List.forall_mem_cons.mpr ⟨List.mem_of_getElem? (i := 763) (by decide +kernel), List.forall_mem_cons.mpr ⟨List.mem_of_getElem? (i := 764) (by decide +kernel), List.forall_mem_cons.mpr ⟨List.mem_of_getElem? (i := 765) (by decide +kernel), List.forall_mem_cons.mpr ⟨List.mem_of_getElem? (i := 767) (by decide +kernel), List.forall_mem_cons.mpr ⟨List.mem_of_getElem? (i := 768) (by decide +kernel), List.forall_mem_cons.mpr ⟨List.mem_of_getElem? (i := 769) (by decide +kernel), List.forall_mem_cons.mpr ⟨List.mem_of_getElem? (i := 770) (by decide +kernel), List.forall_mem_cons.mpr ⟨List.mem_of_getElem? (i := 771) (by decide +kernel), List.forall_mem_cons.mpr ⟨List.mem_of_getElem? (i := 772) (by decide +kernel), List.forall_mem_cons.mpr ⟨List.mem_of_getElem? (i := 773) (by decide +kernel), List.forall_mem_cons.mpr ⟨List.mem_of_getElem? (i := 774) (by decide +kernel), List.forall_mem_cons.mpr ⟨List.mem_of_getElem? (i := 775) (by decide +kernel), List.forall_mem_cons.mpr ⟨List.mem_of_getElem? (i := 776) (by decide +kernel), List.forall_mem_cons.mpr ⟨List.mem_of_getElem? (i := 777) (by decide +kernel), List.forall_mem_cons.mpr ⟨List.mem_of_getElem? (i := 778) (by decide +kernel), List.forall_mem_cons.mpr ⟨List.mem_of_getElem? (i := 779) (by decide +kernel), List.forall_mem_cons.mpr ⟨List.mem_of_getElem? (i := 781) (by decide +kernel), List.forall_mem_cons.mpr ⟨List.mem_of_getElem? (i := 782) (by decide +kernel), List.forall_mem_cons.mpr ⟨List.mem_of_getElem? (i := 783) (by decide +kernel), List.forall_mem_cons.mpr ⟨List.mem_of_getElem? (i := 784) (by decide +kernel), List.forall_mem_cons.mpr ⟨List.mem_of_getElem? (i := 785) (by decide +kernel), List.forall_mem_cons.mpr ⟨List.mem_of_getElem? (i := 786) (by decide +kernel), List.forall_mem_cons.mpr ⟨List.mem_of_getElem? (i := 787) (by decide +kernel), List.forall_mem_cons.mpr ⟨List.mem_of_getElem? (i := 788) (by decide +kernel), List.forall_mem_cons.mpr ⟨List.mem_of_getElem? (i := 789) (by decide +kernel), List.forall_mem_cons.mpr ⟨List.mem_of_getElem? (i := 790) (by decide +kernel), List.forall_mem_cons.mpr ⟨List.mem_of_getElem? (i := 791) (by decide +kernel), List.forall_mem_cons.mpr ⟨List.mem_of_getElem? (i := 793) (by decide +kernel), List.forall_mem_cons.mpr ⟨List.mem_of_getElem? (i := 794) (by decide +kernel), List.forall_mem_cons.mpr ⟨List.mem_of_getElem? (i := 795) (by decide +kernel), List.forall_mem_cons.mpr ⟨List.mem_of_getElem? (i := 797) (by decide +kernel), fun _ h => absurd h List.not_mem_nil⟩⟩⟩⟩⟩⟩⟩⟩⟩⟩⟩⟩⟩⟩⟩⟩⟩⟩⟩⟩⟩⟩⟩⟩⟩⟩⟩⟩⟩⟩⟩⟩⟩⟩⟩⟩⟩⟩⟩⟩
theorem gt_15_ok : ∀ w ∈ gt_15, (w.onTables && w.keeps) = true := by decide +kernel
def gt_16 : List Cond := [(Jvm.Cond.code ({ cls := "PageLayoutModel", name := "isEnd", desc := "(I)Z" } : Jvm.MethodName) prog_9_method_14_code (2 : Nat) (Option.some Jvm.ClassFile.FieldType.boolean)), (Jvm.Cond.methodLink "PageLayoutModel" (140 : Nat) ({ cls := "PageLayoutModel", name := "breaks", desc := "(II)Z" } : Jvm.MethodName)), (Jvm.Cond.instanceMethod ({ cls := "PageLayoutModel", name := "breaks", desc := "(II)Z" } : Jvm.MethodName)), (Jvm.Cond.code ({ cls := "PageLayoutModel", name := "breaks", desc := "(II)Z" } : Jvm.MethodName) prog_9_method_21_code (4 : Nat) (Option.some Jvm.ClassFile.FieldType.boolean)), (Jvm.Cond.methodLink "PageLayoutModel" (144 : Nat) ({ cls := "PageLayoutModel", name := "measure", desc := "(III)I" } : Jvm.MethodName)), (Jvm.Cond.instanceMethod ({ cls := "PageLayoutModel", name := "measure", desc := "(III)I" } : Jvm.MethodName)), (Jvm.Cond.code ({ cls := "PageLayoutModel", name := "measure", desc := "(III)I" } : Jvm.MethodName) prog_9_method_20_code (8 : Nat) (Option.some Jvm.ClassFile.FieldType.int)), (Jvm.Cond.methodLink "PageLayoutModel" (130 : Nat) ({ cls := "PageLayoutModel", name := "trailing", desc := "(II)I" } : Jvm.MethodName)), (Jvm.Cond.instanceMethod ({ cls := "PageLayoutModel", name := "trailing", desc := "(II)I" } : Jvm.MethodName)), (Jvm.Cond.code ({ cls := "PageLayoutModel", name := "trailing", desc := "(II)I" } : Jvm.MethodName) prog_9_method_15_code (4 : Nat) (Option.some Jvm.ClassFile.FieldType.int)), (Jvm.Cond.methodLink "PageLayoutModel" (133 : Nat) ({ cls := "PageLayoutModel", name := "beginning", desc := "(II)I" } : Jvm.MethodName)), (Jvm.Cond.instanceMethod ({ cls := "PageLayoutModel", name := "beginning", desc := "(II)I" } : Jvm.MethodName)), (Jvm.Cond.code ({ cls := "PageLayoutModel", name := "beginning", desc := "(II)I" } : Jvm.MethodName) prog_9_method_19_code (4 : Nat) (Option.some Jvm.ClassFile.FieldType.int)), (Jvm.Cond.methodLink "PageLayoutModel" (136 : Nat) ({ cls := "PageLayoutModel", name := "tab", desc := "(IIIII)I" } : Jvm.MethodName)), (Jvm.Cond.instanceMethod ({ cls := "PageLayoutModel", name := "tab", desc := "(IIIII)I" } : Jvm.MethodName)), (Jvm.Cond.code ({ cls := "PageLayoutModel", name := "tab", desc := "(IIIII)I" } : Jvm.MethodName) prog_9_method_18_code (12 : Nat) (Option.some Jvm.ClassFile.FieldType.int)), (Jvm.Cond.methodLink "PageLayoutModel" (123 : Nat) ({ cls := "PageLayoutModel", name := "stopAbove", desc := "(II)I" } : Jvm.MethodName)), (Jvm.Cond.instanceMethod ({ cls := "PageLayoutModel", name := "stopAbove", desc := "(II)I" } : Jvm.MethodName)), (Jvm.Cond.code ({ cls := "PageLayoutModel", name := "stopAbove", desc := "(II)I" } : Jvm.MethodName) prog_9_method_17_code (4 : Nat) (Option.some Jvm.ClassFile.FieldType.int)), (Jvm.Cond.methodLink "PageLayoutModel" (127 : Nat) ({ cls := "PageLayoutModel", name := "plain", desc := "(II)I" } : Jvm.MethodName)), (Jvm.Cond.instanceMethod ({ cls := "PageLayoutModel", name := "plain", desc := "(II)I" } : Jvm.MethodName)), (Jvm.Cond.code ({ cls := "PageLayoutModel", name := "plain", desc := "(II)I" } : Jvm.MethodName) prog_9_method_16_code (3 : Nat) (Option.some Jvm.ClassFile.FieldType.int)), (Jvm.Cond.methodLink "PageLayoutModel" (148 : Nat) ({ cls := "PageLayoutModel", name := "room", desc := "(I)I" } : Jvm.MethodName)), (Jvm.Cond.instanceMethod ({ cls := "PageLayoutModel", name := "room", desc := "(I)I" } : Jvm.MethodName)), (Jvm.Cond.code ({ cls := "PageLayoutModel", name := "room", desc := "(I)I" } : Jvm.MethodName) prog_9_method_22_code (2 : Nat) (Option.some Jvm.ClassFile.FieldType.int)), (Jvm.Cond.methodLink "PageLayoutModel" (172 : Nat) ({ cls := "PageLayoutModel", name := "layLine", desc := "(IIIZ)V" } : Jvm.MethodName)), (Jvm.Cond.instanceMethod ({ cls := "PageLayoutModel", name := "layLine", desc := "(IIIZ)V" } : Jvm.MethodName)), (Jvm.Cond.code ({ cls := "PageLayoutModel", name := "layLine", desc := "(IIIZ)V" } : Jvm.MethodName) prog_9_method_24_code (18 : Nat) (Option.none : Option Jvm.ClassFile.FieldType)), (Jvm.Cond.methodLink "PageLayoutModel" (176 : Nat) ({ cls := "PageLayoutModel", name := "filled", desc := "(I)I" } : Jvm.MethodName)), (Jvm.Cond.instanceMethod ({ cls := "PageLayoutModel", name := "filled", desc := "(I)I" } : Jvm.MethodName)), (Jvm.Cond.code ({ cls := "PageLayoutModel", name := "filled", desc := "(I)I" } : Jvm.MethodName) prog_9_method_29_code (6 : Nat) (Option.some Jvm.ClassFile.FieldType.int)), (Jvm.Cond.methodLink "PageLayoutModel" (157 : Nat) ({ cls := "PageLayoutModel", name := "between", desc := "(I)I" } : Jvm.MethodName)), (Jvm.Cond.instanceMethod ({ cls := "PageLayoutModel", name := "between", desc := "(I)I" } : Jvm.MethodName)), (Jvm.Cond.code ({ cls := "PageLayoutModel", name := "between", desc := "(I)I" } : Jvm.MethodName) prog_9_method_26_code (2 : Nat) (Option.some Jvm.ClassFile.FieldType.int)), (Jvm.Cond.methodLink "PageLayoutModel" (154 : Nat) ({ cls := "PageLayoutModel", name := "isFirst", desc := "(I)Z" } : Jvm.MethodName)), (Jvm.Cond.instanceMethod ({ cls := "PageLayoutModel", name := "isFirst", desc := "(I)Z" } : Jvm.MethodName)), (Jvm.Cond.code ({ cls := "PageLayoutModel", name := "isFirst", desc := "(I)Z" } : Jvm.MethodName) prog_9_method_25_code (2 : Nat) (Option.some Jvm.ClassFile.FieldType.boolean)), (Jvm.Cond.methodLink "PageLayoutModel" (160 : Nat) ({ cls := "PageLayoutModel", name := "mustEnd", desc := "(I)Z" } : Jvm.MethodName)), (Jvm.Cond.instanceMethod ({ cls := "PageLayoutModel", name := "mustEnd", desc := "(I)Z" } : Jvm.MethodName)), (Jvm.Cond.code ({ cls := "PageLayoutModel", name := "mustEnd", desc := "(I)Z" } : Jvm.MethodName) prog_9_method_27_code (3 : Nat) (Option.some Jvm.ClassFile.FieldType.boolean))]
theorem gt_16_in : ∀ w ∈ gt_16, w ∈ lw_tbl := List.forall_mem_cons.mpr ⟨List.mem_of_getElem? (i := 798) (by decide +kernel), List.forall_mem_cons.mpr ⟨List.mem_of_getElem? (i := 799) (by decide +kernel), List.forall_mem_cons.mpr ⟨List.mem_of_getElem? (i := 801) (by decide +kernel), List.forall_mem_cons.mpr ⟨List.mem_of_getElem? (i := 802) (by decide +kernel), List.forall_mem_cons.mpr ⟨List.mem_of_getElem? (i := 803) (by decide +kernel), List.forall_mem_cons.mpr ⟨List.mem_of_getElem? (i := 805) (by decide +kernel), List.forall_mem_cons.mpr ⟨List.mem_of_getElem? (i := 806) (by decide +kernel), List.forall_mem_cons.mpr ⟨List.mem_of_getElem? (i := 807) (by decide +kernel), List.forall_mem_cons.mpr ⟨List.mem_of_getElem? (i := 809) (by decide +kernel), List.forall_mem_cons.mpr ⟨List.mem_of_getElem? (i := 810) (by decide +kernel), List.forall_mem_cons.mpr ⟨List.mem_of_getElem? (i := 811) (by decide +kernel), List.forall_mem_cons.mpr ⟨List.mem_of_getElem? (i := 813) (by decide +kernel), List.forall_mem_cons.mpr ⟨List.mem_of_getElem? (i := 814) (by decide +kernel), List.forall_mem_cons.mpr ⟨List.mem_of_getElem? (i := 815) (by decide +kernel), List.forall_mem_cons.mpr ⟨List.mem_of_getElem? (i := 817) (by decide +kernel), List.forall_mem_cons.mpr ⟨List.mem_of_getElem? (i := 818) (by decide +kernel), List.forall_mem_cons.mpr ⟨List.mem_of_getElem? (i := 819) (by decide +kernel), List.forall_mem_cons.mpr ⟨List.mem_of_getElem? (i := 821) (by decide +kernel), List.forall_mem_cons.mpr ⟨List.mem_of_getElem? (i := 822) (by decide +kernel), List.forall_mem_cons.mpr ⟨List.mem_of_getElem? (i := 823) (by decide +kernel), List.forall_mem_cons.mpr ⟨List.mem_of_getElem? (i := 825) (by decide +kernel), List.forall_mem_cons.mpr ⟨List.mem_of_getElem? (i := 826) (by decide +kernel), List.forall_mem_cons.mpr ⟨List.mem_of_getElem? (i := 827) (by decide +kernel), List.forall_mem_cons.mpr ⟨List.mem_of_getElem? (i := 829) (by decide +kernel), List.forall_mem_cons.mpr ⟨List.mem_of_getElem? (i := 830) (by decide +kernel), List.forall_mem_cons.mpr ⟨List.mem_of_getElem? (i := 831) (by decide +kernel), List.forall_mem_cons.mpr ⟨List.mem_of_getElem? (i := 833) (by decide +kernel), List.forall_mem_cons.mpr ⟨List.mem_of_getElem? (i := 834) (by decide +kernel), List.forall_mem_cons.mpr ⟨List.mem_of_getElem? (i := 835) (by decide +kernel), List.forall_mem_cons.mpr ⟨List.mem_of_getElem? (i := 837) (by decide +kernel), List.forall_mem_cons.mpr ⟨List.mem_of_getElem? (i := 838) (by decide +kernel), List.forall_mem_cons.mpr ⟨List.mem_of_getElem? (i := 839) (by decide +kernel), List.forall_mem_cons.mpr ⟨List.mem_of_getElem? (i := 841) (by decide +kernel), List.forall_mem_cons.mpr ⟨List.mem_of_getElem? (i := 842) (by decide +kernel), List.forall_mem_cons.mpr ⟨List.mem_of_getElem? (i := 843) (by decide +kernel), List.forall_mem_cons.mpr ⟨List.mem_of_getElem? (i := 845) (by decide +kernel), List.forall_mem_cons.mpr ⟨List.mem_of_getElem? (i := 846) (by decide +kernel), List.forall_mem_cons.mpr ⟨List.mem_of_getElem? (i := 847) (by decide +kernel), List.forall_mem_cons.mpr ⟨List.mem_of_getElem? (i := 849) (by decide +kernel), List.forall_mem_cons.mpr ⟨List.mem_of_getElem? (i := 850) (by decide +kernel), fun _ h => absurd h List.not_mem_nil⟩⟩⟩⟩⟩⟩⟩⟩⟩⟩⟩⟩⟩⟩⟩⟩⟩⟩⟩⟩⟩⟩⟩⟩⟩⟩⟩⟩⟩⟩⟩⟩⟩⟩⟩⟩⟩⟩⟩⟩
theorem gt_16_ok : ∀ w ∈ gt_16, (w.onTables && w.keeps) = true := by decide +kernel
def gt_17 : List Cond := [(Jvm.Cond.methodLink "PageLayoutModel" (163 : Nat) ({ cls := "PageLayoutModel", name := "mayEnd", desc := "(I)Z" } : Jvm.MethodName)), (Jvm.Cond.instanceMethod ({ cls := "PageLayoutModel", name := "mayEnd", desc := "(I)Z" } : Jvm.MethodName)), (Jvm.Cond.code ({ cls := "PageLayoutModel", name := "mayEnd", desc := "(I)Z" } : Jvm.MethodName) prog_9_method_28_code (4 : Nat) (Option.some Jvm.ClassFile.FieldType.boolean)), (Jvm.Cond.methodLink "PageLayoutLaw" (85 : Nat) ({ cls := "PageLayoutModel", name := "count", desc := "(I)I" } : Jvm.MethodName)), (Jvm.Cond.instanceMethod ({ cls := "PageLayoutModel", name := "count", desc := "(I)I" } : Jvm.MethodName)), (Jvm.Cond.selects "PageLayoutModel" ({ cls := "PageLayoutModel", name := "count", desc := "(I)I" } : Jvm.MethodName) ({ cls := "PageLayoutModel", name := "count", desc := "(I)I" } : Jvm.MethodName)), (Jvm.Cond.code ({ cls := "PageLayoutModel", name := "count", desc := "(I)I" } : Jvm.MethodName) prog_9_method_31_code (2 : Nat) (Option.some Jvm.ClassFile.FieldType.int)), (Jvm.Cond.methodLink "PageLayoutLaw" (89 : Nat) ({ cls := "PageLayoutModel", name := "line", desc := "(II)I" } : Jvm.MethodName)), (Jvm.Cond.instanceMethod ({ cls := "PageLayoutModel", name := "line", desc := "(II)I" } : Jvm.MethodName)), (Jvm.Cond.selects "PageLayoutModel" ({ cls := "PageLayoutModel", name := "line", desc := "(II)I" } : Jvm.MethodName) ({ cls := "PageLayoutModel", name := "line", desc := "(II)I" } : Jvm.MethodName)), (Jvm.Cond.code ({ cls := "PageLayoutModel", name := "line", desc := "(II)I" } : Jvm.MethodName) prog_9_method_32_code (3 : Nat) (Option.some Jvm.ClassFile.FieldType.int)), (Jvm.Cond.methodLink "PageLayoutLaw" (92 : Nat) ({ cls := "PageLayoutModel", name := "where", desc := "(II)I" } : Jvm.MethodName)), (Jvm.Cond.instanceMethod ({ cls := "PageLayoutModel", name := "where", desc := "(II)I" } : Jvm.MethodName)), (Jvm.Cond.selects "PageLayoutModel" ({ cls := "PageLayoutModel", name := "where", desc := "(II)I" } : Jvm.MethodName) ({ cls := "PageLayoutModel", name := "where", desc := "(II)I" } : Jvm.MethodName)), (Jvm.Cond.code ({ cls := "PageLayoutModel", name := "where", desc := "(II)I" } : Jvm.MethodName) prog_9_method_33_code (3 : Nat) (Option.some Jvm.ClassFile.FieldType.int)), (Jvm.Cond.methodLink "PageLayoutLaw" (95 : Nat) ({ cls := "PageLayoutModel", name := "page", desc := "(II)I" } : Jvm.MethodName)), (Jvm.Cond.instanceMethod ({ cls := "PageLayoutModel", name := "page", desc := "(II)I" } : Jvm.MethodName)), (Jvm.Cond.selects "PageLayoutModel" ({ cls := "PageLayoutModel", name := "page", desc := "(II)I" } : Jvm.MethodName) ({ cls := "PageLayoutModel", name := "page", desc := "(II)I" } : Jvm.MethodName)), (Jvm.Cond.code ({ cls := "PageLayoutModel", name := "page", desc := "(II)I" } : Jvm.MethodName) prog_9_method_35_code (4 : Nat) (Option.some Jvm.ClassFile.FieldType.int)), (Jvm.Cond.methodLink "PageLayoutModel" (179 : Nat) ({ cls := "PageLayoutModel", name := "isPage", desc := "(I)Z" } : Jvm.MethodName)), (Jvm.Cond.instanceMethod ({ cls := "PageLayoutModel", name := "isPage", desc := "(I)Z" } : Jvm.MethodName)), (Jvm.Cond.code ({ cls := "PageLayoutModel", name := "isPage", desc := "(I)Z" } : Jvm.MethodName) prog_9_method_34_code (2 : Nat) (Option.some Jvm.ClassFile.FieldType.boolean)), (Jvm.Cond.methodLink "PageLayoutLaw" (98 : Nat) ({ cls := "PageLayoutModel", name := "hit", desc := "(III)I" } : Jvm.MethodName)), (Jvm.Cond.instanceMethod ({ cls := "PageLayoutModel", name := "hit", desc := "(III)I" } : Jvm.MethodName)), (Jvm.Cond.selects "PageLayoutModel" ({ cls := "PageLayoutModel", name := "hit", desc := "(III)I" } : Jvm.MethodName) ({ cls := "PageLayoutModel", name := "hit", desc := "(III)I" } : Jvm.MethodName)), (Jvm.Cond.code ({ cls := "PageLayoutModel", name := "hit", desc := "(III)I" } : Jvm.MethodName) prog_9_method_36_code (7 : Nat) (Option.some Jvm.ClassFile.FieldType.int))]
theorem gt_17_in : ∀ w ∈ gt_17, w ∈ lw_tbl := List.forall_mem_cons.mpr ⟨List.mem_of_getElem? (i := 851) (by decide +kernel), List.forall_mem_cons.mpr ⟨List.mem_of_getElem? (i := 853) (by decide +kernel), List.forall_mem_cons.mpr ⟨List.mem_of_getElem? (i := 854) (by decide +kernel), List.forall_mem_cons.mpr ⟨List.mem_of_getElem? (i := 855) (by decide +kernel), List.forall_mem_cons.mpr ⟨List.mem_of_getElem? (i := 856) (by decide +kernel), List.forall_mem_cons.mpr ⟨List.mem_of_getElem? (i := 857) (by decide +kernel), List.forall_mem_cons.mpr ⟨List.mem_of_getElem? (i := 858) (by decide +kernel), List.forall_mem_cons.mpr ⟨List.mem_of_getElem? (i := 859) (by decide +kernel), List.forall_mem_cons.mpr ⟨List.mem_of_getElem? (i := 860) (by decide +kernel), List.forall_mem_cons.mpr ⟨List.mem_of_getElem? (i := 861) (by decide +kernel), List.forall_mem_cons.mpr ⟨List.mem_of_getElem? (i := 862) (by decide +kernel), List.forall_mem_cons.mpr ⟨List.mem_of_getElem? (i := 863) (by decide +kernel), List.forall_mem_cons.mpr ⟨List.mem_of_getElem? (i := 864) (by decide +kernel), List.forall_mem_cons.mpr ⟨List.mem_of_getElem? (i := 865) (by decide +kernel), List.forall_mem_cons.mpr ⟨List.mem_of_getElem? (i := 866) (by decide +kernel), List.forall_mem_cons.mpr ⟨List.mem_of_getElem? (i := 867) (by decide +kernel), List.forall_mem_cons.mpr ⟨List.mem_of_getElem? (i := 868) (by decide +kernel), List.forall_mem_cons.mpr ⟨List.mem_of_getElem? (i := 869) (by decide +kernel), List.forall_mem_cons.mpr ⟨List.mem_of_getElem? (i := 870) (by decide +kernel), List.forall_mem_cons.mpr ⟨List.mem_of_getElem? (i := 871) (by decide +kernel), List.forall_mem_cons.mpr ⟨List.mem_of_getElem? (i := 873) (by decide +kernel), List.forall_mem_cons.mpr ⟨List.mem_of_getElem? (i := 874) (by decide +kernel), List.forall_mem_cons.mpr ⟨List.mem_of_getElem? (i := 875) (by decide +kernel), List.forall_mem_cons.mpr ⟨List.mem_of_getElem? (i := 876) (by decide +kernel), List.forall_mem_cons.mpr ⟨List.mem_of_getElem? (i := 877) (by decide +kernel), List.forall_mem_cons.mpr ⟨List.mem_of_getElem? (i := 878) (by decide +kernel), fun _ h => absurd h List.not_mem_nil⟩⟩⟩⟩⟩⟩⟩⟩⟩⟩⟩⟩⟩⟩⟩⟩⟩⟩⟩⟩⟩⟩⟩⟩⟩⟩
theorem gt_17_ok : ∀ w ∈ gt_17, (w.onTables && w.keeps) = true := by decide +kernel
def gt : List Cond := gt_0 ++ (gt_1 ++ (gt_2 ++ (gt_3 ++ (gt_4 ++ (gt_5 ++ (gt_6 ++ (gt_7 ++ (gt_8 ++ (gt_9 ++ (gt_10 ++ (gt_11 ++ (gt_12 ++ (gt_13 ++ (gt_14 ++ (gt_15 ++ (gt_16 ++ (gt_17)))))))))))))))))
theorem gt_in : ∀ w ∈ gt, w ∈ lw_tbl := List.forall_mem_append.mpr ⟨gt_0_in, List.forall_mem_append.mpr ⟨gt_1_in, List.forall_mem_append.mpr ⟨gt_2_in, List.forall_mem_append.mpr ⟨gt_3_in, List.forall_mem_append.mpr ⟨gt_4_in, List.forall_mem_append.mpr ⟨gt_5_in, List.forall_mem_append.mpr ⟨gt_6_in, List.forall_mem_append.mpr ⟨gt_7_in, List.forall_mem_append.mpr ⟨gt_8_in, List.forall_mem_append.mpr ⟨gt_9_in, List.forall_mem_append.mpr ⟨gt_10_in, List.forall_mem_append.mpr ⟨gt_11_in, List.forall_mem_append.mpr ⟨gt_12_in, List.forall_mem_append.mpr ⟨gt_13_in, List.forall_mem_append.mpr ⟨gt_14_in, List.forall_mem_append.mpr ⟨gt_15_in, List.forall_mem_append.mpr ⟨gt_16_in, gt_17_in⟩⟩⟩⟩⟩⟩⟩⟩⟩⟩⟩⟩⟩⟩⟩⟩⟩
theorem gt_ok : ∀ w ∈ gt, (w.onTables && w.keeps) = true := List.forall_mem_append.mpr ⟨gt_0_ok, List.forall_mem_append.mpr ⟨gt_1_ok, List.forall_mem_append.mpr ⟨gt_2_ok, List.forall_mem_append.mpr ⟨gt_3_ok, List.forall_mem_append.mpr ⟨gt_4_ok, List.forall_mem_append.mpr ⟨gt_5_ok, List.forall_mem_append.mpr ⟨gt_6_ok, List.forall_mem_append.mpr ⟨gt_7_ok, List.forall_mem_append.mpr ⟨gt_8_ok, List.forall_mem_append.mpr ⟨gt_9_ok, List.forall_mem_append.mpr ⟨gt_10_ok, List.forall_mem_append.mpr ⟨gt_11_ok, List.forall_mem_append.mpr ⟨gt_12_ok, List.forall_mem_append.mpr ⟨gt_13_ok, List.forall_mem_append.mpr ⟨gt_14_ok, List.forall_mem_append.mpr ⟨gt_15_ok, List.forall_mem_append.mpr ⟨gt_16_ok, gt_17_ok⟩⟩⟩⟩⟩⟩⟩⟩⟩⟩⟩⟩⟩⟩⟩⟩⟩
theorem gt_good : GoodIn gt gt := fun w h => ⟨h, Or.inl (gt_ok w h)⟩
end
section
def R_PL : String := "PageLayout"
def T_PL : u_T := fun k => match k with
  | 0 => ("PageLayout", "text", "LPageLayout$Text;", true)
  | 1 => ("PageLayout", "sheet", "LPageLayout$Sheet;", true)
  | 2 => ("PageLayout", "lines", "LPageLayout$Lines;", true)
  | 3 => ("PageLayout", "pages", "LPageLayout$Pages;", true)
  | _ => ("PageLayout", "laid", "Z", false)
def ty_PL : Nat → FieldType := fun k => match k with
  | 0 => (.object "PageLayout$Text")
  | 1 => (.object "PageLayout$Sheet")
  | 2 => (.object "PageLayout$Lines")
  | 3 => (.object "PageLayout$Pages")
  | _ => .boolean
theorem nm_PL : ∀ a, a < 5 → ∀ b, b < 5 → a ≠ b → (T_PL a).2.1 ≠ (T_PL b).2.1 := by decide +kernel
theorem tk_PL : ∀ k, k < 5 → parseFieldDescriptor (T_PL k).2.2.1 = some (ty_PL k) := by decide +kernel
def R_TX : String := "PageLayout$Text"
def T_TX : u_T := fun k => match k with
  | 0 => ("PageLayout$Text", "paragraph", "[LPageLayout$Paragraph;", true)
  | 1 => ("PageLayout$Text", "kind", "[I", true)
  | 2 => ("PageLayout$Text", "width", "[I", true)
  | 3 => ("PageLayout$Text", "height", "[I", true)
  | 4 => ("PageLayout$Text", "paragraphs", "I", false)
  | _ => ("PageLayout$Text", "signs", "I", false)
def ty_TX : Nat → FieldType := fun k => match k with
  | 0 => (.array (.object "PageLayout$Paragraph"))
  | 1 => (.array .int)
  | 2 => (.array .int)
  | 3 => (.array .int)
  | 4 => .int
  | _ => .int
theorem nm_TX : ∀ a, a < 6 → ∀ b, b < 6 → a ≠ b → (T_TX a).2.1 ≠ (T_TX b).2.1 := by decide +kernel
theorem tk_TX : ∀ k, k < 6 → parseFieldDescriptor (T_TX k).2.2.1 = some (ty_TX k) := by decide +kernel
def R_SH : String := "PageLayout$Sheet"
def T_SH : u_T := fun k => match k with
  | 0 => ("PageLayout$Sheet", "wide", "I", false)
  | 1 => ("PageLayout$Sheet", "high", "I", false)
  | _ => ("PageLayout$Sheet", "step", "I", false)
def ty_SH : Nat → FieldType := fun k => match k with
  | 0 => .int
  | 1 => .int
  | _ => .int
theorem nm_SH : ∀ a, a < 3 → ∀ b, b < 3 → a ≠ b → (T_SH a).2.1 ≠ (T_SH b).2.1 := by decide +kernel
theorem tk_SH : ∀ k, k < 3 → parseFieldDescriptor (T_SH k).2.2.1 = some (ty_SH k) := by decide +kernel
def R_LN : String := "PageLayout$Lines"
def T_LN : u_T := fun k => match k with
  | 0 => ("PageLayout$Lines", "told", "[[I", true)
  | 1 => ("PageLayout$Lines", "place", "[[I", true)
  | 2 => ("PageLayout$Lines", "number", "I", false)
  | 3 => ("PageLayout$Lines", "text", "LPageLayout$Text;", true)
  | 4 => ("PageLayout$Lines", "sheet", "LPageLayout$Sheet;", true)
  | _ => ("PageLayout$Lines", "ruler", "LPageLayout$Ruler;", true)
def ty_LN : Nat → FieldType := fun k => match k with
  | 0 => (.array (.array .int))
  | 1 => (.array (.array .int))
  | 2 => .int
  | 3 => (.object "PageLayout$Text")
  | 4 => (.object "PageLayout$Sheet")
  | _ => (.object "PageLayout$Ruler")
theorem nm_LN : ∀ a, a < 6 → ∀ b, b < 6 → a ≠ b → (T_LN a).2.1 ≠ (T_LN b).2.1 := by decide +kernel
theorem tk_LN : ∀ k, k < 6 → parseFieldDescriptor (T_LN k).2.2.1 = some (ty_LN k) := by decide +kernel
def R_RU : String := "PageLayout$Ruler"
def T_RU : u_T := fun k => match k with
  | 0 => ("PageLayout$Ruler", "text", "LPageLayout$Text;", true)
  | 1 => ("PageLayout$Ruler", "sheet", "LPageLayout$Sheet;", true)
  | 2 => ("PageLayout$Ruler", "paragraph", "LPageLayout$Paragraph;", false)
  | 3 => ("PageLayout$Ruler", "hasTab", "Z", false)
  | 4 => ("PageLayout$Ruler", "from", "I", false)
  | 5 => ("PageLayout$Ruler", "widths", "I", false)
  | _ => ("PageLayout$Ruler", "solidWidths", "I", false)
def ty_RU : Nat → FieldType := fun k => match k with
  | 0 => (.object "PageLayout$Text")
  | 1 => (.object "PageLayout$Sheet")
  | 2 => (.object "PageLayout$Paragraph")
  | 3 => .boolean
  | 4 => .int
  | 5 => .int
  | _ => .int
theorem nm_RU : ∀ a, a < 7 → ∀ b, b < 7 → a ≠ b → (T_RU a).2.1 ≠ (T_RU b).2.1 := by decide +kernel
theorem tk_RU : ∀ k, k < 7 → parseFieldDescriptor (T_RU k).2.2.1 = some (ty_RU k) := by decide +kernel
def R_PG : String := "PageLayout$Pages"
def T_PG : u_T := fun k => match k with
  | 0 => ("PageLayout$Pages", "told", "[[I", true)
  | 1 => ("PageLayout$Pages", "number", "I", false)
  | 2 => ("PageLayout$Pages", "text", "LPageLayout$Text;", true)
  | 3 => ("PageLayout$Pages", "sheet", "LPageLayout$Sheet;", true)
  | _ => ("PageLayout$Pages", "lines", "LPageLayout$Lines;", true)
def ty_PG : Nat → FieldType := fun k => match k with
  | 0 => (.array (.array .int))
  | 1 => .int
  | 2 => (.object "PageLayout$Text")
  | 3 => (.object "PageLayout$Sheet")
  | _ => (.object "PageLayout$Lines")
theorem nm_PG : ∀ a, a < 5 → ∀ b, b < 5 → a ≠ b → (T_PG a).2.1 ≠ (T_PG b).2.1 := by decide +kernel
theorem tk_PG : ∀ k, k < 5 → parseFieldDescriptor (T_PG k).2.2.1 = some (ty_PG k) := by decide +kernel
def R_PA : String := "PageLayout$Paragraph"
def T_PA : u_T := fun k => match k with
  | 0 => ("PageLayout$Paragraph", "shape", "[I", true)
  | 1 => ("PageLayout$Paragraph", "stopPlace", "[I", true)
  | 2 => ("PageLayout$Paragraph", "stopKind", "[I", true)
  | 3 => ("PageLayout$Paragraph", "stops", "I", false)
  | 4 => ("PageLayout$Paragraph", "first", "I", false)
  | _ => ("PageLayout$Paragraph", "behind", "I", false)
def ty_PA : Nat → FieldType := fun k => match k with
  | 0 => (.array .int)
  | 1 => (.array .int)
  | 2 => (.array .int)
  | 3 => .int
  | 4 => .int
  | _ => .int
theorem nm_PA : ∀ a, a < 6 → ∀ b, b < 6 → a ≠ b → (T_PA a).2.1 ≠ (T_PA b).2.1 := by decide +kernel
theorem tk_PA : ∀ k, k < 6 → parseFieldDescriptor (T_PA k).2.2.1 = some (ty_PA k) := by decide +kernel
def R_MO : String := "PageLayoutModel"
def T_MO : u_T := fun k => match k with
  | 0 => ("PageLayoutModel", "code", "I", false)
  | 1 => ("PageLayoutModel", "wide", "I", false)
  | 2 => ("PageLayoutModel", "high", "I", false)
  | 3 => ("PageLayoutModel", "step", "I", false)
  | 4 => ("PageLayoutModel", "paragraphs", "I", false)
  | 5 => ("PageLayoutModel", "begin", "[I", true)
  | 6 => ("PageLayoutModel", "shapes", "[I", true)
  | 7 => ("PageLayoutModel", "stops", "[I", true)
  | 8 => ("PageLayoutModel", "stopAt", "[I", true)
  | 9 => ("PageLayoutModel", "stopKind", "[I", true)
  | 10 => ("PageLayoutModel", "kind", "[I", true)
  | 11 => ("PageLayoutModel", "width", "[I", true)
  | 12 => ("PageLayoutModel", "height", "[I", true)
  | 13 => ("PageLayoutModel", "across", "[I", true)
  | 14 => ("PageLayoutModel", "broad", "[I", true)
  | 15 => ("PageLayoutModel", "laid", "Z", false)
  | 16 => ("PageLayoutModel", "lines", "I", false)
  | 17 => ("PageLayoutModel", "paragraphOf", "[I", true)
  | 18 => ("PageLayoutModel", "firstOf", "[I", true)
  | 19 => ("PageLayoutModel", "manyOf", "[I", true)
  | 20 => ("PageLayoutModel", "beginOf", "[I", true)
  | 21 => ("PageLayoutModel", "endOf", "[I", true)
  | 22 => ("PageLayoutModel", "heightOf", "[I", true)
  | 23 => ("PageLayoutModel", "pageOf", "[I", true)
  | 24 => ("PageLayoutModel", "downOf", "[I", true)
  | 25 => ("PageLayoutModel", "movedOf", "[I", true)
  | 26 => ("PageLayoutModel", "widerOf", "[I", true)
  | 27 => ("PageLayoutModel", "lineOf", "[I", true)
  | 28 => ("PageLayoutModel", "placeOf", "[I", true)
  | 29 => ("PageLayoutModel", "broadOf", "[I", true)
  | 30 => ("PageLayoutModel", "pages", "I", false)
  | _ => ("PageLayoutModel", "pageFirst", "[I", true)
def ty_MO : Nat → FieldType := fun k => match k with
  | 0 => .int
  | 1 => .int
  | 2 => .int
  | 3 => .int
  | 4 => .int
  | 5 => (.array .int)
  | 6 => (.array .int)
  | 7 => (.array .int)
  | 8 => (.array .int)
  | 9 => (.array .int)
  | 10 => (.array .int)
  | 11 => (.array .int)
  | 12 => (.array .int)
  | 13 => (.array .int)
  | 14 => (.array .int)
  | 15 => .boolean
  | 16 => .int
  | 17 => (.array .int)
  | 18 => (.array .int)
  | 19 => (.array .int)
  | 20 => (.array .int)
  | 21 => (.array .int)
  | 22 => (.array .int)
  | 23 => (.array .int)
  | 24 => (.array .int)
  | 25 => (.array .int)
  | 26 => (.array .int)
  | 27 => (.array .int)
  | 28 => (.array .int)
  | 29 => (.array .int)
  | 30 => .int
  | _ => (.array .int)
theorem nm_MO : ∀ a, a < 32 → ∀ b, b < 32 → a ≠ b → (T_MO a).2.1 ≠ (T_MO b).2.1 := by decide +kernel
theorem tk_MO : ∀ k, k < 32 → parseFieldDescriptor (T_MO k).2.2.1 = some (ty_MO k) := by decide +kernel
def R_LW : String := "PageLayoutLaw"
abbrev vwCl : List vw_C := [(R_PL, T_PL, 5), (R_TX, T_TX, 6), (R_SH, T_SH, 3), (R_LN, T_LN, 6), (R_RU, T_RU, 7), (R_PG, T_PG, 5), (R_PA, T_PA, 6), (R_MO, T_MO, 32)]
abbrev b_PL_init : ByteArray := prog_1_method_1_code
def y_PL_init : MethodName := ⟨"PageLayout", "<init>", "()V"⟩
def ws_PL_init : List Cond := .code y_PL_init b_PL_init 1 none :: gt
abbrev b_TX_init : ByteArray := prog_7_method_1_code
def y_TX_init : MethodName := ⟨"PageLayout$Text", "<init>", "()V"⟩
def ws_TX_init : List Cond := .code y_TX_init b_TX_init 2 none :: gt
abbrev b_PA_init : ByteArray := prog_4_method_1_code
def y_PA_init : MethodName := ⟨"PageLayout$Paragraph", "<init>", "()V"⟩
def ws_PA_init : List Cond := .code y_PA_init b_PA_init 1 none :: gt
abbrev b_SH_init : ByteArray := prog_6_method_1_code
def y_SH_init : MethodName := ⟨"PageLayout$Sheet", "<init>", "()V"⟩
def ws_SH_init : List Cond := .code y_SH_init b_SH_init 1 none :: gt
abbrev b_LN_init : ByteArray := prog_2_method_1_code
def y_LN_init : MethodName := ⟨"PageLayout$Lines", "<init>", "(LPageLayout$Text;LPageLayout$Sheet;)V"⟩
def ws_LN_init : List Cond := .code y_LN_init b_LN_init 3 none :: gt
abbrev b_RU_init : ByteArray := prog_5_method_1_code
def y_RU_init : MethodName := ⟨"PageLayout$Ruler", "<init>", "(LPageLayout$Text;LPageLayout$Sheet;)V"⟩
def ws_RU_init : List Cond := .code y_RU_init b_RU_init 3 none :: gt
abbrev b_PG_init : ByteArray := prog_3_method_1_code
def y_PG_init : MethodName := ⟨"PageLayout$Pages", "<init>", "(LPageLayout$Text;LPageLayout$Sheet;LPageLayout$Lines;)V"⟩
def ws_PG_init : List Cond := .code y_PG_init b_PG_init 4 none :: gt
abbrev b_PL_clear : ByteArray := prog_1_method_2_code
def y_PL_clear : MethodName := ⟨"PageLayout", "clear", "()V"⟩
def ws_PL_clear : List Cond := .code y_PL_clear b_PL_clear 1 none :: gt
abbrev b_PL_forgetLayout : ByteArray := prog_1_method_14_code
def y_PL_forgetLayout : MethodName := ⟨"PageLayout", "forgetLayout", "()V"⟩
def ws_PL_forgetLayout : List Cond := .code y_PL_forgetLayout b_PL_forgetLayout 1 none :: gt
abbrev b_PL_lay : ByteArray := prog_1_method_8_code
def y_PL_lay : MethodName := ⟨"PageLayout", "lay", "()I"⟩
def ws_PL_lay : List Cond := .code y_PL_lay b_PL_lay 1 (some .int) :: gt
abbrev b_LN_layAll : ByteArray := prog_2_method_2_code
def y_LN_layAll : MethodName := ⟨"PageLayout$Lines", "layAll", "()V"⟩
def ws_LN_layAll : List Cond := .code y_LN_layAll b_LN_layAll 2 none :: gt
abbrev b_LN_layLinesOf : ByteArray := prog_2_method_3_code
def y_LN_layLinesOf : MethodName := ⟨"PageLayout$Lines", "layLinesOf", "(I)V"⟩
def ws_LN_layLinesOf : List Cond := .code y_LN_layLinesOf b_LN_layLinesOf 7 none :: gt
abbrev b_LN_addLine : ByteArray := prog_2_method_5_code
def y_LN_addLine : MethodName := ⟨"PageLayout$Lines", "addLine", "(IIII)V"⟩
def ws_LN_addLine : List Cond := .code y_LN_addLine b_LN_addLine 7 none :: gt
abbrev b_TX_solidBehind : ByteArray := prog_7_method_7_code
def y_TX_solidBehind : MethodName := ⟨"PageLayout$Text", "solidBehind", "(II)I"⟩
def ws_TX_solidBehind : List Cond := .code y_TX_solidBehind b_TX_solidBehind 4 (some .int) :: gt
abbrev b_TX_endsLine : ByteArray := prog_7_method_4_code
def y_TX_endsLine : MethodName := ⟨"PageLayout$Text", "endsLine", "(I)Z"⟩
def ws_TX_endsLine : List Cond := .code y_TX_endsLine b_TX_endsLine 2 (some .boolean) :: gt
abbrev b_LN_placeSigns : ByteArray := prog_2_method_6_code
def y_LN_placeSigns : MethodName := ⟨"PageLayout$Lines", "placeSigns", "(LPageLayout$Paragraph;III)V"⟩
def ws_LN_placeSigns : List Cond := .code y_LN_placeSigns b_LN_placeSigns 9 none :: gt
abbrev b_LN_widthsBehindTab : ByteArray := prog_2_method_7_code
def y_LN_widthsBehindTab : MethodName := ⟨"PageLayout$Lines", "widthsBehindTab", "(III)I"⟩
def ws_LN_widthsBehindTab : List Cond := .code y_LN_widthsBehindTab b_LN_widthsBehindTab 6 (some .int) :: gt
abbrev b_TX_widthWithin : ByteArray := prog_7_method_6_code
def y_TX_widthWithin : MethodName := ⟨"PageLayout$Text", "widthWithin", "(IZ)I"⟩
def ws_TX_widthWithin : List Cond := .code y_TX_widthWithin b_TX_widthWithin 3 (some .int) :: gt
abbrev b_PA_tabWidth : ByteArray := prog_4_method_5_code
def y_PA_tabWidth : MethodName := ⟨"PageLayout$Paragraph", "tabWidth", "(III)I"⟩
def ws_PA_tabWidth : List Cond := .code y_PA_tabWidth b_PA_tabWidth 8 (some .int) :: gt
abbrev b_PA_ownStopAbove : ByteArray := prog_4_method_6_code
def y_PA_ownStopAbove : MethodName := ⟨"PageLayout$Paragraph", "ownStopAbove", "(I)I"⟩
def ws_PA_ownStopAbove : List Cond := .code y_PA_ownStopAbove b_PA_ownStopAbove 3 (some .int) :: gt
abbrev b_PA_lastStop : ByteArray := prog_4_method_3_code
def y_PA_lastStop : MethodName := ⟨"PageLayout$Paragraph", "lastStop", "()I"⟩
def ws_PA_lastStop : List Cond := .code y_PA_lastStop b_PA_lastStop 1 (some .int) :: gt
abbrev b_PA_stepAbove : ByteArray := prog_4_method_7_code
def y_PA_stepAbove : MethodName := ⟨"PageLayout$Paragraph", "stepAbove", "(II)I"⟩
def ws_PA_stepAbove : List Cond := .code y_PA_stepAbove b_PA_stepAbove 2 (some .int) :: gt
abbrev b_LN_heightOf : ByteArray := prog_2_method_8_code
def y_LN_heightOf : MethodName := ⟨"PageLayout$Lines", "heightOf", "(LPageLayout$Paragraph;II)I"⟩
def ws_LN_heightOf : List Cond := .code y_LN_heightOf b_LN_heightOf 6 (some .int) :: gt
abbrev b_LN_align : ByteArray := prog_2_method_9_code
def y_LN_align : MethodName := ⟨"PageLayout$Lines", "align", "(LPageLayout$Paragraph;II)V"⟩
def ws_LN_align : List Cond := .code y_LN_align b_LN_align 9 none :: gt
abbrev b_LN_widenGaps : ByteArray := prog_2_method_10_code
def y_LN_widenGaps : MethodName := ⟨"PageLayout$Lines", "widenGaps", "(III)I"⟩
def ws_LN_widenGaps : List Cond := .code y_LN_widenGaps b_LN_widenGaps 11 (some .int) :: gt
abbrev b_LN_signBehindLastTab : ByteArray := prog_2_method_11_code
def y_LN_signBehindLastTab : MethodName := ⟨"PageLayout$Lines", "signBehindLastTab", "(II)I"⟩
def ws_LN_signBehindLastTab : List Cond := .code y_LN_signBehindLastTab b_LN_signBehindLastTab 4 (some .int) :: gt
abbrev b_LN_lineBehind : ByteArray := prog_2_method_4_code
def y_LN_lineBehind : MethodName := ⟨"PageLayout$Lines", "lineBehind", "(LPageLayout$Paragraph;II)I"⟩
def ws_LN_lineBehind : List Cond := .code y_LN_lineBehind b_LN_lineBehind 8 (some .int) :: gt
abbrev b_RU_begin : ByteArray := prog_5_method_2_code
def y_RU_begin : MethodName := ⟨"PageLayout$Ruler", "begin", "(LPageLayout$Paragraph;I)V"⟩
def ws_RU_begin : List Cond := .code y_RU_begin b_RU_begin 3 none :: gt
abbrev b_RU_beginStretch : ByteArray := prog_5_method_6_code
def y_RU_beginStretch : MethodName := ⟨"PageLayout$Ruler", "beginStretch", "(I)V"⟩
def ws_RU_beginStretch : List Cond := .code y_RU_beginStretch b_RU_beginStretch 2 none :: gt
abbrev b_RU_add : ByteArray := prog_5_method_3_code
def y_RU_add : MethodName := ⟨"PageLayout$Ruler", "add", "(I)V"⟩
def ws_RU_add : List Cond := .code y_RU_add b_RU_add 2 none :: gt
abbrev b_RU_endWith : ByteArray := prog_5_method_7_code
def y_RU_endWith : MethodName := ⟨"PageLayout$Ruler", "endWith", "(I)I"⟩
def ws_RU_endWith : List Cond := .code y_RU_endWith b_RU_endWith 3 (some .int) :: gt
abbrev b_TX_isBreakBehind : ByteArray := prog_7_method_5_code
def y_TX_isBreakBehind : MethodName := ⟨"PageLayout$Text", "isBreakBehind", "(ILPageLayout$Paragraph;)Z"⟩
def ws_TX_isBreakBehind : List Cond := .code y_TX_isBreakBehind b_TX_isBreakBehind 3 (some .boolean) :: gt
abbrev b_RU_endBehind : ByteArray := prog_5_method_5_code
def y_RU_endBehind : MethodName := ⟨"PageLayout$Ruler", "endBehind", "(I)I"⟩
def ws_RU_endBehind : List Cond := .code y_RU_endBehind b_RU_endBehind 2 (some .int) :: gt
abbrev b_RU_leastEnd : ByteArray := prog_5_method_4_code
def y_RU_leastEnd : MethodName := ⟨"PageLayout$Ruler", "leastEnd", "()I"⟩
def ws_RU_leastEnd : List Cond := .code y_RU_leastEnd b_RU_leastEnd 1 (some .int) :: gt
abbrev b_PG_fillAll : ByteArray := prog_3_method_2_code
def y_PG_fillAll : MethodName := ⟨"PageLayout$Pages", "fillAll", "()V"⟩
def ws_PG_fillAll : List Cond := .code y_PG_fillAll b_PG_fillAll 3 none :: gt
abbrev b_PG_pageBehind : ByteArray := prog_3_method_4_code
def y_PG_pageBehind : MethodName := ⟨"PageLayout$Pages", "pageBehind", "(I)I"⟩
def ws_PG_pageBehind : List Cond := .code y_PG_pageBehind b_PG_pageBehind 4 (some .int) :: gt
abbrev b_PG_standLines : ByteArray := prog_3_method_5_code
def y_PG_standLines : MethodName := ⟨"PageLayout$Pages", "standLines", "(I)I"⟩
def ws_PG_standLines : List Cond := .code y_PG_standLines b_PG_standLines 3 (some .int) :: gt
abbrev b_PG_mustEndAhead : ByteArray := prog_3_method_9_code
def y_PG_mustEndAhead : MethodName := ⟨"PageLayout$Pages", "mustEndAhead", "(I)Z"⟩
def ws_PG_mustEndAhead : List Cond := .code y_PG_mustEndAhead b_PG_mustEndAhead 2 (some .boolean) :: gt
abbrev b_LN_endsPage : ByteArray := prog_2_method_14_code
def y_LN_endsPage : MethodName := ⟨"PageLayout$Lines", "endsPage", "(I)Z"⟩
def ws_LN_endsPage : List Cond := .code y_LN_endsPage b_LN_endsPage 3 (some .boolean) :: gt
abbrev b_LN_isFirstOfParagraph : ByteArray := prog_2_method_12_code
def y_LN_isFirstOfParagraph : MethodName := ⟨"PageLayout$Lines", "isFirstOfParagraph", "(I)Z"⟩
def ws_LN_isFirstOfParagraph : List Cond := .code y_LN_isFirstOfParagraph b_LN_isFirstOfParagraph 2 (some .boolean) :: gt
abbrev b_PG_paragraphOf : ByteArray := prog_3_method_8_code
def y_PG_paragraphOf : MethodName := ⟨"PageLayout$Pages", "paragraphOf", "(I)LPageLayout$Paragraph;"⟩
def ws_PG_paragraphOf : List Cond := .code y_PG_paragraphOf b_PG_paragraphOf 2 (some (.object "PageLayout$Paragraph")) :: gt
abbrev b_PG_bottomOf : ByteArray := prog_3_method_6_code
def y_PG_bottomOf : MethodName := ⟨"PageLayout$Pages", "bottomOf", "(I)I"⟩
def ws_PG_bottomOf : List Cond := .code y_PG_bottomOf b_PG_bottomOf 2 (some .int) :: gt
abbrev b_PG_spaceAhead : ByteArray := prog_3_method_7_code
def y_PG_spaceAhead : MethodName := ⟨"PageLayout$Pages", "spaceAhead", "(I)I"⟩
def ws_PG_spaceAhead : List Cond := .code y_PG_spaceAhead b_PG_spaceAhead 2 (some .int) :: gt
abbrev b_PG_mayEndAhead : ByteArray := prog_3_method_10_code
def y_PG_mayEndAhead : MethodName := ⟨"PageLayout$Pages", "mayEndAhead", "(I)Z"⟩
def ws_PG_mayEndAhead : List Cond := .code y_PG_mayEndAhead b_PG_mayEndAhead 4 (some .boolean) :: gt
abbrev b_LN_isLastOfParagraph : ByteArray := prog_2_method_13_code
def y_LN_isLastOfParagraph : MethodName := ⟨"PageLayout$Lines", "isLastOfParagraph", "(I)Z"⟩
def ws_LN_isLastOfParagraph : List Cond := .code y_LN_isLastOfParagraph b_LN_isLastOfParagraph 2 (some .boolean) :: gt
abbrev b_PG_addPage : ByteArray := prog_3_method_3_code
def y_PG_addPage : MethodName := ⟨"PageLayout$Pages", "addPage", "(II)V"⟩
def ws_PG_addPage : List Cond := .code y_PG_addPage b_PG_addPage 4 none :: gt
abbrev b_PL_count : ByteArray := prog_1_method_9_code
def y_PL_count : MethodName := ⟨"PageLayout", "count", "(I)I"⟩
def ws_PL_count : List Cond := .code y_PL_count b_PL_count 2 (some .int) :: gt
abbrev b_LW_paragraph : ByteArray := method_3_code
def y_LW_paragraph : MethodName := ⟨"PageLayoutLaw", "paragraph", "(LPageLayout;[J)I"⟩
abbrev b_PL_paragraph : ByteArray := prog_1_method_3_code
def y_PL_paragraph : MethodName := ⟨"PageLayout", "paragraph", "()I"⟩
def ws_PL_paragraph : List Cond := .code y_PL_paragraph b_PL_paragraph 1 (some .int) :: gt
abbrev b_TX_addParagraph : ByteArray := prog_7_method_2_code
def y_TX_addParagraph : MethodName := ⟨"PageLayout$Text", "addParagraph", "()I"⟩
def ws_TX_addParagraph : List Cond := .code y_TX_addParagraph b_TX_addParagraph 1 (some .int) :: gt
abbrev b_PA_renew : ByteArray := prog_4_method_2_code
def y_PA_renew : MethodName := ⟨"PageLayout$Paragraph", "renew", "(I)V"⟩
def ws_PA_renew : List Cond := .code y_PA_renew b_PA_renew 2 none :: gt
abbrev b_LW_sign : ByteArray := method_4_code
def y_LW_sign : MethodName := ⟨"PageLayoutLaw", "sign", "(LPageLayout;III[J)I"⟩
abbrev b_PL_sign : ByteArray := prog_1_method_4_code
def y_PL_sign : MethodName := ⟨"PageLayout", "sign", "(III)I"⟩
def ws_PL_sign : List Cond := .code y_PL_sign b_PL_sign 4 (some .int) :: gt
abbrev b_PL_isOutside : ByteArray := prog_1_method_15_code
def y_PL_isOutside : MethodName := ⟨"PageLayout", "isOutside", "(III)Z"⟩
def ws_PL_isOutside : List Cond := .code y_PL_isOutside b_PL_isOutside 3 (some .boolean) :: gt
abbrev b_TX_addSign : ByteArray := prog_7_method_3_code
def y_TX_addSign : MethodName := ⟨"PageLayout$Text", "addSign", "(III)I"⟩
def ws_TX_addSign : List Cond := .code y_TX_addSign b_TX_addSign 4 (some .int) :: gt
abbrev b_LW_shape : ByteArray := method_5_code
def y_LW_shape : MethodName := ⟨"PageLayoutLaw", "shape", "(LPageLayout;III)I"⟩
abbrev b_PL_shape : ByteArray := prog_1_method_5_code
def y_PL_shape : MethodName := ⟨"PageLayout", "shape", "(III)V"⟩
def ws_PL_shape : List Cond := .code y_PL_shape b_PL_shape 4 none :: gt
abbrev b_LW_stop : ByteArray := method_6_code
def y_LW_stop : MethodName := ⟨"PageLayoutLaw", "stop", "(LPageLayout;III[J)I"⟩
abbrev b_PL_stop : ByteArray := prog_1_method_6_code
def y_PL_stop : MethodName := ⟨"PageLayout", "stop", "(III)I"⟩
def ws_PL_stop : List Cond := .code y_PL_stop b_PL_stop 5 (some .int) :: gt
abbrev b_PA_addStop : ByteArray := prog_4_method_4_code
def y_PA_addStop : MethodName := ⟨"PageLayout$Paragraph", "addStop", "(II)I"⟩
def ws_PA_addStop : List Cond := .code y_PA_addStop b_PA_addStop 3 (some .int) :: gt
abbrev b_LW_sheet : ByteArray := method_7_code
def y_LW_sheet : MethodName := ⟨"PageLayoutLaw", "sheet", "(LPageLayout;III)I"⟩
abbrev b_PL_sheet : ByteArray := prog_1_method_7_code
def y_PL_sheet : MethodName := ⟨"PageLayout", "sheet", "(III)V"⟩
def ws_PL_sheet : List Cond := .code y_PL_sheet b_PL_sheet 4 none :: gt
abbrev b_LW_line : ByteArray := method_8_code
def y_LW_line : MethodName := ⟨"PageLayoutLaw", "line", "(LPageLayout;II[J)I"⟩
abbrev b_PL_line : ByteArray := prog_1_method_10_code
def y_PL_line : MethodName := ⟨"PageLayout", "line", "(II)I"⟩
def ws_PL_line : List Cond := .code y_PL_line b_PL_line 3 (some .int) :: gt
abbrev b_LW_where : ByteArray := method_9_code
def y_LW_where : MethodName := ⟨"PageLayoutLaw", "where", "(LPageLayout;II[J)I"⟩
abbrev b_PL_where : ByteArray := prog_1_method_11_code
def y_PL_where : MethodName := ⟨"PageLayout", "where", "(II)I"⟩
def ws_PL_where : List Cond := .code y_PL_where b_PL_where 3 (some .int) :: gt
abbrev b_LW_page : ByteArray := method_10_code
def y_LW_page : MethodName := ⟨"PageLayoutLaw", "page", "(LPageLayout;II[J)I"⟩
abbrev b_PL_page : ByteArray := prog_1_method_12_code
def y_PL_page : MethodName := ⟨"PageLayout", "page", "(II)I"⟩
def ws_PL_page : List Cond := .code y_PL_page b_PL_page 3 (some .int) :: gt
abbrev b_LW_hit : ByteArray := method_11_code
def y_LW_hit : MethodName := ⟨"PageLayoutLaw", "hit", "(LPageLayout;III[J)I"⟩
abbrev b_PL_hit : ByteArray := prog_1_method_13_code
def y_PL_hit : MethodName := ⟨"PageLayout", "hit", "(III)I"⟩
def ws_PL_hit : List Cond := .code y_PL_hit b_PL_hit 4 (some .int) :: gt
abbrev b_PG_lineAt : ByteArray := prog_3_method_11_code
def y_PG_lineAt : MethodName := ⟨"PageLayout$Pages", "lineAt", "(II)I"⟩
def ws_PG_lineAt : List Cond := .code y_PG_lineAt b_PG_lineAt 5 (some .int) :: gt
abbrev b_LN_signAhead : ByteArray := prog_2_method_15_code
def y_LN_signAhead : MethodName := ⟨"PageLayout$Lines", "signAhead", "(II)I"⟩
def ws_LN_signAhead : List Cond := .code y_LN_signAhead b_LN_signAhead 7 (some .int) :: gt
abbrev b_MO_init : ByteArray := prog_9_method_1_code
def y_MO_init : MethodName := ⟨"PageLayoutModel", "<init>", "()V"⟩
def ws_MO_init : List Cond := .code y_MO_init b_MO_init 1 none :: gt
abbrev b_MO_thrown : ByteArray := prog_9_method_2_code
def y_MO_thrown : MethodName := ⟨"PageLayoutModel", "thrown", "()I"⟩
def ws_MO_thrown : List Cond := .code y_MO_thrown b_MO_thrown 1 (some .int) :: gt
abbrev b_MO_clear : ByteArray := prog_9_method_5_code
def y_MO_clear : MethodName := ⟨"PageLayoutModel", "clear", "()V"⟩
def ws_MO_clear : List Cond := .code y_MO_clear b_MO_clear 1 none :: gt
abbrev b_MO_paragraph : ByteArray := prog_9_method_6_code
def y_MO_paragraph : MethodName := ⟨"PageLayoutModel", "paragraph", "()I"⟩
def ws_MO_paragraph : List Cond := .code y_MO_paragraph b_MO_paragraph 3 (some .int) :: gt
abbrev b_MO_sign : ByteArray := prog_9_method_7_code
def y_MO_sign : MethodName := ⟨"PageLayoutModel", "sign", "(III)I"⟩
def ws_MO_sign : List Cond := .code y_MO_sign b_MO_sign 5 (some .int) :: gt
abbrev b_MO_in : ByteArray := prog_9_method_4_code
def y_MO_in : MethodName := ⟨"PageLayoutModel", "in", "(III)Z"⟩
def ws_MO_in : List Cond := .code y_MO_in b_MO_in 3 (some .boolean) :: gt
abbrev b_MO_shape : ByteArray := prog_9_method_11_code
def y_MO_shape : MethodName := ⟨"PageLayoutModel", "shape", "(III)V"⟩
def ws_MO_shape : List Cond := .code y_MO_shape b_MO_shape 4 none :: gt
abbrev b_MO_isParagraph : ByteArray := prog_9_method_10_code
def y_MO_isParagraph : MethodName := ⟨"PageLayoutModel", "isParagraph", "(I)Z"⟩
def ws_MO_isParagraph : List Cond := .code y_MO_isParagraph b_MO_isParagraph 2 (some .boolean) :: gt
abbrev b_MO_least : ByteArray := prog_9_method_8_code
def y_MO_least : MethodName := ⟨"PageLayoutModel", "least", "(I)I"⟩
def ws_MO_least : List Cond := .code y_MO_least b_MO_least 1 (some .int) :: gt
abbrev b_MO_most : ByteArray := prog_9_method_9_code
def y_MO_most : MethodName := ⟨"PageLayoutModel", "most", "(I)I"⟩
def ws_MO_most : List Cond := .code y_MO_most b_MO_most 1 (some .int) :: gt
abbrev b_MO_stop : ByteArray := prog_9_method_12_code
def y_MO_stop : MethodName := ⟨"PageLayoutModel", "stop", "(III)I"⟩
def ws_MO_stop : List Cond := .code y_MO_stop b_MO_stop 5 (some .int) :: gt
abbrev b_MO_raise : ByteArray := prog_9_method_3_code
def y_MO_raise : MethodName := ⟨"PageLayoutModel", "raise", "(I)I"⟩
def ws_MO_raise : List Cond := .code y_MO_raise b_MO_raise 2 (some .int) :: gt
abbrev b_MO_sheet : ByteArray := prog_9_method_13_code
def y_MO_sheet : MethodName := ⟨"PageLayoutModel", "sheet", "(III)V"⟩
def ws_MO_sheet : List Cond := .code y_MO_sheet b_MO_sheet 4 none :: gt
abbrev b_MO_lay : ByteArray := prog_9_method_30_code
def y_MO_lay : MethodName := ⟨"PageLayoutModel", "lay", "()I"⟩
def ws_MO_lay : List Cond := .code y_MO_lay b_MO_lay 5 (some .int) :: gt
abbrev b_MO_broken : ByteArray := prog_9_method_23_code
def y_MO_broken : MethodName := ⟨"PageLayoutModel", "broken", "(II)I"⟩
def ws_MO_broken : List Cond := .code y_MO_broken b_MO_broken 7 (some .int) :: gt
abbrev b_MO_isEnd : ByteArray := prog_9_method_14_code
def y_MO_isEnd : MethodName := ⟨"PageLayoutModel", "isEnd", "(I)Z"⟩
def ws_MO_isEnd : List Cond := .code y_MO_isEnd b_MO_isEnd 2 (some .boolean) :: gt
abbrev b_MO_breaks : ByteArray := prog_9_method_21_code
def y_MO_breaks : MethodName := ⟨"PageLayoutModel", "breaks", "(II)Z"⟩
def ws_MO_breaks : List Cond := .code y_MO_breaks b_MO_breaks 4 (some .boolean) :: gt
abbrev b_MO_measure : ByteArray := prog_9_method_20_code
def y_MO_measure : MethodName := ⟨"PageLayoutModel", "measure", "(III)I"⟩
def ws_MO_measure : List Cond := .code y_MO_measure b_MO_measure 8 (some .int) :: gt
abbrev b_MO_trailing : ByteArray := prog_9_method_15_code
def y_MO_trailing : MethodName := ⟨"PageLayoutModel", "trailing", "(II)I"⟩
def ws_MO_trailing : List Cond := .code y_MO_trailing b_MO_trailing 4 (some .int) :: gt
abbrev b_MO_beginning : ByteArray := prog_9_method_19_code
def y_MO_beginning : MethodName := ⟨"PageLayoutModel", "beginning", "(II)I"⟩
def ws_MO_beginning : List Cond := .code y_MO_beginning b_MO_beginning 4 (some .int) :: gt
abbrev b_MO_tab : ByteArray := prog_9_method_18_code
def y_MO_tab : MethodName := ⟨"PageLayoutModel", "tab", "(IIIII)I"⟩
def ws_MO_tab : List Cond := .code y_MO_tab b_MO_tab 12 (some .int) :: gt
abbrev b_MO_stopAbove : ByteArray := prog_9_method_17_code
def y_MO_stopAbove : MethodName := ⟨"PageLayoutModel", "stopAbove", "(II)I"⟩
def ws_MO_stopAbove : List Cond := .code y_MO_stopAbove b_MO_stopAbove 4 (some .int) :: gt
abbrev b_MO_plain : ByteArray := prog_9_method_16_code
def y_MO_plain : MethodName := ⟨"PageLayoutModel", "plain", "(II)I"⟩
def ws_MO_plain : List Cond := .code y_MO_plain b_MO_plain 3 (some .int) :: gt
abbrev b_MO_room : ByteArray := prog_9_method_22_code
def y_MO_room : MethodName := ⟨"PageLayoutModel", "room", "(I)I"⟩
def ws_MO_room : List Cond := .code y_MO_room b_MO_room 2 (some .int) :: gt
abbrev b_MO_layLine : ByteArray := prog_9_method_24_code
def y_MO_layLine : MethodName := ⟨"PageLayoutModel", "layLine", "(IIIZ)V"⟩
def ws_MO_layLine : List Cond := .code y_MO_layLine b_MO_layLine 18 none :: gt
abbrev b_MO_filled : ByteArray := prog_9_method_29_code
def y_MO_filled : MethodName := ⟨"PageLayoutModel", "filled", "(I)I"⟩
def ws_MO_filled : List Cond := .code y_MO_filled b_MO_filled 6 (some .int) :: gt
abbrev b_MO_between : ByteArray := prog_9_method_26_code
def y_MO_between : MethodName := ⟨"PageLayoutModel", "between", "(I)I"⟩
def ws_MO_between : List Cond := .code y_MO_between b_MO_between 2 (some .int) :: gt
abbrev b_MO_isFirst : ByteArray := prog_9_method_25_code
def y_MO_isFirst : MethodName := ⟨"PageLayoutModel", "isFirst", "(I)Z"⟩
def ws_MO_isFirst : List Cond := .code y_MO_isFirst b_MO_isFirst 2 (some .boolean) :: gt
abbrev b_MO_mustEnd : ByteArray := prog_9_method_27_code
def y_MO_mustEnd : MethodName := ⟨"PageLayoutModel", "mustEnd", "(I)Z"⟩
def ws_MO_mustEnd : List Cond := .code y_MO_mustEnd b_MO_mustEnd 3 (some .boolean) :: gt
abbrev b_MO_mayEnd : ByteArray := prog_9_method_28_code
def y_MO_mayEnd : MethodName := ⟨"PageLayoutModel", "mayEnd", "(I)Z"⟩
def ws_MO_mayEnd : List Cond := .code y_MO_mayEnd b_MO_mayEnd 4 (some .boolean) :: gt
abbrev b_MO_count : ByteArray := prog_9_method_31_code
def y_MO_count : MethodName := ⟨"PageLayoutModel", "count", "(I)I"⟩
def ws_MO_count : List Cond := .code y_MO_count b_MO_count 2 (some .int) :: gt
abbrev b_MO_line : ByteArray := prog_9_method_32_code
def y_MO_line : MethodName := ⟨"PageLayoutModel", "line", "(II)I"⟩
def ws_MO_line : List Cond := .code y_MO_line b_MO_line 3 (some .int) :: gt
abbrev b_MO_where : ByteArray := prog_9_method_33_code
def y_MO_where : MethodName := ⟨"PageLayoutModel", "where", "(II)I"⟩
def ws_MO_where : List Cond := .code y_MO_where b_MO_where 3 (some .int) :: gt
abbrev b_MO_page : ByteArray := prog_9_method_35_code
def y_MO_page : MethodName := ⟨"PageLayoutModel", "page", "(II)I"⟩
def ws_MO_page : List Cond := .code y_MO_page b_MO_page 4 (some .int) :: gt
abbrev b_MO_isPage : ByteArray := prog_9_method_34_code
def y_MO_isPage : MethodName := ⟨"PageLayoutModel", "isPage", "(I)Z"⟩
def ws_MO_isPage : List Cond := .code y_MO_isPage b_MO_isPage 2 (some .boolean) :: gt
abbrev b_MO_hit : ByteArray := prog_9_method_36_code
def y_MO_hit : MethodName := ⟨"PageLayoutModel", "hit", "(III)I"⟩
def ws_MO_hit : List Cond := .code y_MO_hit b_MO_hit 7 (some .int) :: gt
theorem in_PL : ∀ w ∈ u_ws R_PL T_PL 5, w ∈ gt := List.forall_mem_cons.mpr ⟨List.mem_append_right _ (List.mem_append_right _ (List.mem_append_right _ (List.mem_append_right _ (List.mem_append_right _ (List.mem_append_left _ (List.mem_of_getElem? (i := 4) rfl)))))), List.forall_mem_cons.mpr ⟨List.mem_append_right _ (List.mem_append_right _ (List.mem_append_right _ (List.mem_append_right _ (List.mem_append_right _ (List.mem_append_left _ (List.mem_of_getElem? (i := 5) rfl)))))), List.forall_mem_cons.mpr ⟨List.mem_append_right _ (List.mem_append_right _ (List.mem_append_right _ (List.mem_append_right _ (List.mem_append_right _ (List.mem_append_left _ (List.mem_of_getElem? (i := 6) rfl)))))), List.forall_mem_cons.mpr ⟨List.mem_append_right _ (List.mem_append_right _ (List.mem_append_right _ (List.mem_append_right _ (List.mem_append_right _ (List.mem_append_left _ (List.mem_of_getElem? (i := 7) rfl)))))), List.forall_mem_cons.mpr ⟨List.mem_append_right _ (List.mem_append_right _ (List.mem_append_right _ (List.mem_append_right _ (List.mem_append_right _ (List.mem_append_left _ (List.mem_of_getElem? (i := 8) rfl)))))), fun _ h => absurd h List.not_mem_nil⟩⟩⟩⟩⟩
theorem in_TX : ∀ w ∈ u_ws R_TX T_TX 6, w ∈ gt := List.forall_mem_cons.mpr ⟨List.mem_append_right _ (List.mem_append_right _ (List.mem_append_left _ (List.mem_of_getElem? (i := 32) rfl))), List.forall_mem_cons.mpr ⟨List.mem_append_right _ (List.mem_append_right _ (List.mem_append_left _ (List.mem_of_getElem? (i := 33) rfl))), List.forall_mem_cons.mpr ⟨List.mem_append_right _ (List.mem_append_right _ (List.mem_append_left _ (List.mem_of_getElem? (i := 34) rfl))), List.forall_mem_cons.mpr ⟨List.mem_append_right _ (List.mem_append_right _ (List.mem_append_left _ (List.mem_of_getElem? (i := 35) rfl))), List.forall_mem_cons.mpr ⟨List.mem_append_right _ (List.mem_append_right _ (List.mem_append_left _ (List.mem_of_getElem? (i := 36) rfl))), List.forall_mem_cons.mpr ⟨List.mem_append_right _ (List.mem_append_right _ (List.mem_append_left _ (List.mem_of_getElem? (i := 37) rfl))), fun _ h => absurd h List.not_mem_nil⟩⟩⟩⟩⟩⟩
theorem in_SH : ∀ w ∈ u_ws R_SH T_SH 3, w ∈ gt := List.forall_mem_cons.mpr ⟨List.mem_append_right _ (List.mem_append_right _ (List.mem_append_right _ (List.mem_append_left _ (List.mem_of_getElem? (i := 13) rfl)))), List.forall_mem_cons.mpr ⟨List.mem_append_right _ (List.mem_append_right _ (List.mem_append_right _ (List.mem_append_left _ (List.mem_of_getElem? (i := 14) rfl)))), List.forall_mem_cons.mpr ⟨List.mem_append_right _ (List.mem_append_right _ (List.mem_append_right _ (List.mem_append_left _ (List.mem_of_getElem? (i := 15) rfl)))), fun _ h => absurd h List.not_mem_nil⟩⟩⟩
theorem in_LN : ∀ w ∈ u_ws R_LN T_LN 6, w ∈ gt := List.forall_mem_cons.mpr ⟨List.mem_append_right _ (List.mem_append_right _ (List.mem_append_right _ (List.mem_append_right _ (List.mem_append_left _ (List.mem_of_getElem? (i := 14) rfl))))), List.forall_mem_cons.mpr ⟨List.mem_append_right _ (List.mem_append_right _ (List.mem_append_right _ (List.mem_append_right _ (List.mem_append_left _ (List.mem_of_getElem? (i := 15) rfl))))), List.forall_mem_cons.mpr ⟨List.mem_append_right _ (List.mem_append_right _ (List.mem_append_right _ (List.mem_append_right _ (List.mem_append_left _ (List.mem_of_getElem? (i := 16) rfl))))), List.forall_mem_cons.mpr ⟨List.mem_append_right _ (List.mem_append_right _ (List.mem_append_right _ (List.mem_append_right _ (List.mem_append_left _ (List.mem_of_getElem? (i := 17) rfl))))), List.forall_mem_cons.mpr ⟨List.mem_append_right _ (List.mem_append_right _ (List.mem_append_right _ (List.mem_append_right _ (List.mem_append_left _ (List.mem_of_getElem? (i := 18) rfl))))), List.forall_mem_cons.mpr ⟨List.mem_append_right _ (List.mem_append_right _ (List.mem_append_right _ (List.mem_append_right _ (List.mem_append_left _ (List.mem_of_getElem? (i := 19) rfl))))), fun _ h => absurd h List.not_mem_nil⟩⟩⟩⟩⟩⟩
theorem in_RU : ∀ w ∈ u_ws R_RU T_RU 7, w ∈ gt := List.forall_mem_cons.mpr ⟨List.mem_append_right _ (List.mem_append_right _ (List.mem_append_right _ (List.mem_append_left _ (List.mem_of_getElem? (i := 36) rfl)))), List.forall_mem_cons.mpr ⟨List.mem_append_right _ (List.mem_append_right _ (List.mem_append_right _ (List.mem_append_left _ (List.mem_of_getElem? (i := 37) rfl)))), List.forall_mem_cons.mpr ⟨List.mem_append_right _ (List.mem_append_right _ (List.mem_append_right _ (List.mem_append_left _ (List.mem_of_getElem? (i := 38) rfl)))), List.forall_mem_cons.mpr ⟨List.mem_append_right _ (List.mem_append_right _ (List.mem_append_right _ (List.mem_append_left _ (List.mem_of_getElem? (i := 39) rfl)))), List.forall_mem_cons.mpr ⟨List.mem_append_right _ (List.mem_append_right _ (List.mem_append_right _ (List.mem_append_right _ (List.mem_append_left _ (List.mem_of_getElem? (i := 0) rfl))))), List.forall_mem_cons.mpr ⟨List.mem_append_right _ (List.mem_append_right _ (List.mem_append_right _ (List.mem_append_right _ (List.mem_append_left _ (List.mem_of_getElem? (i := 1) rfl))))), List.forall_mem_cons.mpr ⟨List.mem_append_right _ (List.mem_append_right _ (List.mem_append_right _ (List.mem_append_right _ (List.mem_append_left _ (List.mem_of_getElem? (i := 2) rfl))))), fun _ h => absurd h List.not_mem_nil⟩⟩⟩⟩⟩⟩⟩
theorem in_PG : ∀ w ∈ u_ws R_PG T_PG 5, w ∈ gt := List.forall_mem_cons.mpr ⟨List.mem_append_right _ (List.mem_append_right _ (List.mem_append_right _ (List.mem_append_right _ (List.mem_append_left _ (List.mem_of_getElem? (i := 34) rfl))))), List.forall_mem_cons.mpr ⟨List.mem_append_right _ (List.mem_append_right _ (List.mem_append_right _ (List.mem_append_right _ (List.mem_append_left _ (List.mem_of_getElem? (i := 35) rfl))))), List.forall_mem_cons.mpr ⟨List.mem_append_right _ (List.mem_append_right _ (List.mem_append_right _ (List.mem_append_right _ (List.mem_append_left _ (List.mem_of_getElem? (i := 36) rfl))))), List.forall_mem_cons.mpr ⟨List.mem_append_right _ (List.mem_append_right _ (List.mem_append_right _ (List.mem_append_right _ (List.mem_append_left _ (List.mem_of_getElem? (i := 37) rfl))))), List.forall_mem_cons.mpr ⟨List.mem_append_right _ (List.mem_append_right _ (List.mem_append_right _ (List.mem_append_right _ (List.mem_append_left _ (List.mem_of_getElem? (i := 38) rfl))))), fun _ h => absurd h List.not_mem_nil⟩⟩⟩⟩⟩
theorem in_PA : ∀ w ∈ u_ws R_PA T_PA 6, w ∈ gt := List.forall_mem_cons.mpr ⟨List.mem_append_right _ (List.mem_append_right _ (List.mem_append_left _ (List.mem_of_getElem? (i := 10) rfl))), List.forall_mem_cons.mpr ⟨List.mem_append_right _ (List.mem_append_right _ (List.mem_append_left _ (List.mem_of_getElem? (i := 11) rfl))), List.forall_mem_cons.mpr ⟨List.mem_append_right _ (List.mem_append_right _ (List.mem_append_left _ (List.mem_of_getElem? (i := 12) rfl))), List.forall_mem_cons.mpr ⟨List.mem_append_right _ (List.mem_append_right _ (List.mem_append_left _ (List.mem_of_getElem? (i := 13) rfl))), List.forall_mem_cons.mpr ⟨List.mem_append_right _ (List.mem_append_right _ (List.mem_append_left _ (List.mem_of_getElem? (i := 14) rfl))), List.forall_mem_cons.mpr ⟨List.mem_append_right _ (List.mem_append_right _ (List.mem_append_left _ (List.mem_of_getElem? (i := 15) rfl))), fun _ h => absurd h List.not_mem_nil⟩⟩⟩⟩⟩⟩
theorem in_MO : ∀ w ∈ u_ws R_MO T_MO 32, w ∈ gt := List.forall_mem_cons.mpr ⟨List.mem_append_right _ (List.mem_append_right _ (List.mem_append_right _ (List.mem_append_right _ (List.mem_append_right _ (List.mem_append_right _ (List.mem_append_right _ (List.mem_append_right _ (List.mem_append_right _ (List.mem_append_right _ (List.mem_append_right _ (List.mem_append_right _ (List.mem_append_right _ (List.mem_append_left _ (List.mem_of_getElem? (i := 36) rfl)))))))))))))), List.forall_mem_cons.mpr ⟨List.mem_append_right _ (List.mem_append_right _ (List.mem_append_right _ (List.mem_append_right _ (List.mem_append_right _ (List.mem_append_right _ (List.mem_append_right _ (List.mem_append_right _ (List.mem_append_right _ (List.mem_append_right _ (List.mem_append_right _ (List.mem_append_right _ (List.mem_append_right _ (List.mem_append_left _ (List.mem_of_getElem? (i := 37) rfl)))))))))))))), List.forall_mem_cons.mpr ⟨List.mem_append_right _ (List.mem_append_right _ (List.mem_append_right _ (List.mem_append_right _ (List.mem_append_right _ (List.mem_append_right _ (List.mem_append_right _ (List.mem_append_right _ (List.mem_append_right _ (List.mem_append_right _ (List.mem_append_right _ (List.mem_append_right _ (List.mem_append_right _ (List.mem_append_left _ (List.mem_of_getElem? (i := 38) rfl)))))))))))))), List.forall_mem_cons.mpr ⟨List.mem_append_right _ (List.mem_append_right _ (List.mem_append_right _ (List.mem_append_right _ (List.mem_append_right _ (List.mem_append_right _ (List.mem_append_right _ (List.mem_append_right _ (List.mem_append_right _ (List.mem_append_right _ (List.mem_append_right _ (List.mem_append_right _ (List.mem_append_right _ (List.mem_append_left _ (List.mem_of_getElem? (i := 39) rfl)))))))))))))), List.forall_mem_cons.mpr ⟨List.mem_append_right _ (List.mem_append_right _ (List.mem_append_right _ (List.mem_append_right _ (List.mem_append_right _ (List.mem_append_right _ (List.mem_append_right _ (List.mem_append_right _ (List.mem_append_right _ (List.mem_append_right _ (List.mem_append_right _ (List.mem_append_right _ (List.mem_append_right _ (List.mem_append_right _ (List.mem_append_left _ (List.mem_of_getElem? (i := 0) rfl))))))))))))))), List.forall_mem_cons.mpr ⟨List.mem_append_right _ (List.mem_append_right _ (List.mem_append_right _ (List.mem_append_right _ (List.mem_append_right _ (List.mem_append_right _ (List.mem_append_right _ (List.mem_append_right _ (List.mem_append_right _ (List.mem_append_right _ (List.mem_append_right _ (List.mem_append_right _ (List.mem_append_right _ (List.mem_append_right _ (List.mem_append_left _ (List.mem_of_getElem? (i := 1) rfl))))))))))))))), List.forall_mem_cons.mpr ⟨List.mem_append_right _ (List.mem_append_right _ (List.mem_append_right _ (List.mem_append_right _ (List.mem_append_right _ (List.mem_append_right _ (List.mem_append_right _ (List.mem_append_right _ (List.mem_append_right _ (List.mem_append_right _ (List.mem_append_right _ (List.mem_append_right _ (List.mem_append_right _ (List.mem_append_right _ (List.mem_append_left _ (List.mem_of_getElem? (i := 2) rfl))))))))))))))), List.forall_mem_cons.mpr ⟨List.mem_append_right _ (List.mem_append_right _ (List.mem_append_right _ (List.mem_append_right _ (List.mem_append_right _ (List.mem_append_right _ (List.mem_append_right _ (List.mem_append_right _ (List.mem_append_right _ (List.mem_append_right _ (List.mem_append_right _ (List.mem_append_right _ (List.mem_append_right _ (List.mem_append_right _ (List.mem_append_left _ (List.mem_of_getElem? (i := 3) rfl))))))))))))))), List.forall_mem_cons.mpr ⟨List.mem_append_right _ (List.mem_append_right _ (List.mem_append_right _ (List.mem_append_right _ (List.mem_append_right _ (List.mem_append_right _ (List.mem_append_right _ (List.mem_append_right _ (List.mem_append_right _ (List.mem_append_right _ (List.mem_append_right _ (List.mem_append_right _ (List.mem_append_right _ (List.mem_append_right _ (List.mem_append_left _ (List.mem_of_getElem? (i := 4) rfl))))))))))))))), List.forall_mem_cons.mpr ⟨List.mem_append_right _ (List.mem_append_right _ (List.mem_append_right _ (List.mem_append_right _ (List.mem_append_right _ (List.mem_append_right _ (List.mem_append_right _ (List.mem_append_right _ (List.mem_append_right _ (List.mem_append_right _ (List.mem_append_right _ (List.mem_append_right _ (List.mem_append_right _ (List.mem_append_right _ (List.mem_append_left _ (List.mem_of_getElem? (i := 5) rfl))))))))))))))), List.forall_mem_cons.mpr ⟨List.mem_append_right _ (List.mem_append_right _ (List.mem_append_right _ (List.mem_append_right _ (List.mem_append_right _ (List.mem_append_right _ (List.mem_append_right _ (List.mem_append_right _ (List.mem_append_right _ (List.mem_append_right _ (List.mem_append_right _ (List.mem_append_right _ (List.mem_append_right _ (List.mem_append_right _ (List.mem_append_left _ (List.mem_of_getElem? (i := 6) rfl))))))))))))))), List.forall_mem_cons.mpr ⟨List.mem_append_right _ (List.mem_append_right _ (List.mem_append_right _ (List.mem_append_right _ (List.mem_append_right _ (List.mem_append_right _ (List.mem_append_right _ (List.mem_append_right _ (List.mem_append_right _ (List.mem_append_right _ (List.mem_append_right _ (List.mem_append_right _ (List.mem_append_right _ (List.mem_append_right _ (List.mem_append_left _ (List.mem_of_getElem? (i := 7) rfl))))))))))))))), List.forall_mem_cons.mpr ⟨List.mem_append_right _ (List.mem_append_right _ (List.mem_append_right _ (List.mem_append_right _ (List.mem_append_right _ (List.mem_append_right _ (List.mem_append_right _ (List.mem_append_right _ (List.mem_append_right _ (List.mem_append_right _ (List.mem_append_right _ (List.mem_append_right _ (List.mem_append_right _ (List.mem_append_right _ (List.mem_append_left _ (List.mem_of_getElem? (i := 8) rfl))))))))))))))), List.forall_mem_cons.mpr ⟨List.mem_append_right _ (List.mem_append_right _ (List.mem_append_right _ (List.mem_append_right _ (List.mem_append_right _ (List.mem_append_right _ (List.mem_append_right _ (List.mem_append_right _ (List.mem_append_right _ (List.mem_append_right _ (List.mem_append_right _ (List.mem_append_right _ (List.mem_append_right _ (List.mem_append_right _ (List.mem_append_left _ (List.mem_of_getElem? (i := 9) rfl))))))))))))))), List.forall_mem_cons.mpr ⟨List.mem_append_right _ (List.mem_append_right _ (List.mem_append_right _ (List.mem_append_right _ (List.mem_append_right _ (List.mem_append_right _ (List.mem_append_right _ (List.mem_append_right _ (List.mem_append_right _ (List.mem_append_right _ (List.mem_append_right _ (List.mem_append_right _ (List.mem_append_right _ (List.mem_append_right _ (List.mem_append_left _ (List.mem_of_getElem? (i := 10) rfl))))))))))))))), List.forall_mem_cons.mpr ⟨List.mem_append_right _ (List.mem_append_right _ (List.mem_append_right _ (List.mem_append_right _ (List.mem_append_right _ (List.mem_append_right _ (List.mem_append_right _ (List.mem_append_right _ (List.mem_append_right _ (List.mem_append_right _ (List.mem_append_right _ (List.mem_append_right _ (List.mem_append_right _ (List.mem_append_right _ (List.mem_append_left _ (List.mem_of_getElem? (i := 11) rfl))))))))))))))), List.forall_mem_cons.mpr ⟨List.mem_append_right _ (List.mem_append_right _ (List.mem_append_right _ (List.mem_append_right _ (List.mem_append_right _ (List.mem_append_right _ (List.mem_append_right _ (List.mem_append_right _ (List.mem_append_right _ (List.mem_append_right _ (List.mem_append_right _ (List.mem_append_right _ (List.mem_append_right _ (List.mem_append_right _ (List.mem_append_left _ (List.mem_of_getElem? (i := 12) rfl))))))))))))))), List.forall_mem_cons.mpr ⟨List.mem_append_right _ (List.mem_append_right _ (List.mem_append_right _ (List.mem_append_right _ (List.mem_append_right _ (List.mem_append_right _ (List.mem_append_right _ (List.mem_append_right _ (List.mem_append_right _ (List.mem_append_right _ (List.mem_append_right _ (List.mem_append_right _ (List.mem_append_right _ (List.mem_append_right _ (List.mem_append_left _ (List.mem_of_getElem? (i := 13) rfl))))))))))))))), List.forall_mem_cons.mpr ⟨List.mem_append_right _ (List.mem_append_right _ (List.mem_append_right _ (List.mem_append_right _ (List.mem_append_right _ (List.mem_append_right _ (List.mem_append_right _ (List.mem_append_right _ (List.mem_append_right _ (List.mem_append_right _ (List.mem_append_right _ (List.mem_append_right _ (List.mem_append_right _ (List.mem_append_right _ (List.mem_append_left _ (List.mem_of_getElem? (i := 14) rfl))))))))))))))), List.forall_mem_cons.mpr ⟨List.mem_append_right _ (List.mem_append_right _ (List.mem_append_right _ (List.mem_append_right _ (List.mem_append_right _ (List.mem_append_right _ (List.mem_append_right _ (List.mem_append_right _ (List.mem_append_right _ (List.mem_append_right _ (List.mem_append_right _ (List.mem_append_right _ (List.mem_append_right _ (List.mem_append_right _ (List.mem_append_left _ (List.mem_of_getElem? (i := 15) rfl))))))))))))))), List.forall_mem_cons.mpr ⟨List.mem_append_right _ (List.mem_append_right _ (List.mem_append_right _ (List.mem_append_right _ (List.mem_append_right _ (List.mem_append_right _ (List.mem_append_right _ (List.mem_append_right _ (List.mem_append_right _ (List.mem_append_right _ (List.mem_append_right _ (List.mem_append_right _ (List.mem_append_right _ (List.mem_append_right _ (List.mem_append_left _ (List.mem_of_getElem? (i := 16) rfl))))))))))))))), List.forall_mem_cons.mpr ⟨List.mem_append_right _ (List.mem_append_right _ (List.mem_append_right _ (List.mem_append_right _ (List.mem_append_right _ (List.mem_append_right _ (List.mem_append_right _ (List.mem_append_right _ (List.mem_append_right _ (List.mem_append_right _ (List.mem_append_right _ (List.mem_append_right _ (List.mem_append_right _ (List.mem_append_right _ (List.mem_append_left _ (List.mem_of_getElem? (i := 17) rfl))))))))))))))), List.forall_mem_cons.mpr ⟨List.mem_append_right _ (List.mem_append_right _ (List.mem_append_right _ (List.mem_append_right _ (List.mem_append_right _ (List.mem_append_right _ (List.mem_append_right _ (List.mem_append_right _ (List.mem_append_right _ (List.mem_append_right _ (List.mem_append_right _ (List.mem_append_right _ (List.mem_append_right _ (List.mem_append_right _ (List.mem_append_left _ (List.mem_of_getElem? (i := 18) rfl))))))))))))))), List.forall_mem_cons.mpr ⟨List.mem_append_right _ (List.mem_append_right _ (List.mem_append_right _ (List.mem_append_right _ (List.mem_append_right _ (List.mem_append_right _ (List.mem_append_right _ (List.mem_append_right _ (List.mem_append_right _ (List.mem_append_right _ (List.mem_append_right _ (List.mem_append_right _ (List.mem_append_right _ (List.mem_append_right _ (List.mem_append_left _ (List.mem_of_getElem? (i := 19) rfl))))))))))))))), List.forall_mem_cons.mpr ⟨List.mem_append_right _ (List.mem_append_right _ (List.mem_append_right _ (List.mem_append_right _ (List.mem_append_right _ (List.mem_append_right _ (List.mem_append_right _ (List.mem_append_right _ (List.mem_append_right _ (List.mem_append_right _ (List.mem_append_right _ (List.mem_append_right _ (List.mem_append_right _ (List.mem_append_right _ (List.mem_append_left _ (List.mem_of_getElem? (i := 20) rfl))))))))))))))), List.forall_mem_cons.mpr ⟨List.mem_append_right _ (List.mem_append_right _ (List.mem_append_right _ (List.mem_append_right _ (List.mem_append_right _ (List.mem_append_right _ (List.mem_append_right _ (List.mem_append_right _ (List.mem_append_right _ (List.mem_append_right _ (List.mem_append_right _ (List.mem_append_right _ (List.mem_append_right _ (List.mem_append_right _ (List.mem_append_left _ (List.mem_of_getElem? (i := 21) rfl))))))))))))))), List.forall_mem_cons.mpr ⟨List.mem_append_right _ (List.mem_append_right _ (List.mem_append_right _ (List.mem_append_right _ (List.mem_append_right _ (List.mem_append_right _ (List.mem_append_right _ (List.mem_append_right _ (List.mem_append_right _ (List.mem_append_right _ (List.mem_append_right _ (List.mem_append_right _ (List.mem_append_right _ (List.mem_append_right _ (List.mem_append_left _ (List.mem_of_getElem? (i := 22) rfl))))))))))))))), List.forall_mem_cons.mpr ⟨List.mem_append_right _ (List.mem_append_right _ (List.mem_append_right _ (List.mem_append_right _ (List.mem_append_right _ (List.mem_append_right _ (List.mem_append_right _ (List.mem_append_right _ (List.mem_append_right _ (List.mem_append_right _ (List.mem_append_right _ (List.mem_append_right _ (List.mem_append_right _ (List.mem_append_right _ (List.mem_append_left _ (List.mem_of_getElem? (i := 23) rfl))))))))))))))), List.forall_mem_cons.mpr ⟨List.mem_append_right _ (List.mem_append_right _ (List.mem_append_right _ (List.mem_append_right _ (List.mem_append_right _ (List.mem_append_right _ (List.mem_append_right _ (List.mem_append_right _ (List.mem_append_right _ (List.mem_append_right _ (List.mem_append_right _ (List.mem_append_right _ (List.mem_append_right _ (List.mem_append_right _ (List.mem_append_left _ (List.mem_of_getElem? (i := 24) rfl))))))))))))))), List.forall_mem_cons.mpr ⟨List.mem_append_right _ (List.mem_append_right _ (List.mem_append_right _ (List.mem_append_right _ (List.mem_append_right _ (List.mem_append_right _ (List.mem_append_right _ (List.mem_append_right _ (List.mem_append_right _ (List.mem_append_right _ (List.mem_append_right _ (List.mem_append_right _ (List.mem_append_right _ (List.mem_append_right _ (List.mem_append_left _ (List.mem_of_getElem? (i := 25) rfl))))))))))))))), List.forall_mem_cons.mpr ⟨List.mem_append_right _ (List.mem_append_right _ (List.mem_append_right _ (List.mem_append_right _ (List.mem_append_right _ (List.mem_append_right _ (List.mem_append_right _ (List.mem_append_right _ (List.mem_append_right _ (List.mem_append_right _ (List.mem_append_right _ (List.mem_append_right _ (List.mem_append_right _ (List.mem_append_right _ (List.mem_append_left _ (List.mem_of_getElem? (i := 26) rfl))))))))))))))), List.forall_mem_cons.mpr ⟨List.mem_append_right _ (List.mem_append_right _ (List.mem_append_right _ (List.mem_append_right _ (List.mem_append_right _ (List.mem_append_right _ (List.mem_append_right _ (List.mem_append_right _ (List.mem_append_right _ (List.mem_append_right _ (List.mem_append_right _ (List.mem_append_right _ (List.mem_append_right _ (List.mem_append_right _ (List.mem_append_left _ (List.mem_of_getElem? (i := 27) rfl))))))))))))))), fun _ h => absurd h List.not_mem_nil⟩⟩⟩⟩⟩⟩⟩⟩⟩⟩⟩⟩⟩⟩⟩⟩⟩⟩⟩⟩⟩⟩⟩⟩⟩⟩⟩⟩⟩⟩⟩⟩
end
section
/-! Numbers as integers (iI), worlds as rows of integers (wlN), and one row an instruction over them. My own rows over the kit's. -/
def iI (z : Int) : Int32 := Int32.ofInt z
def zb (z : Int) : Prop := -2147483648 ≤ z ∧ z < 2147483648
def bz (P : Prop) (d : Decidable P) : Int := @ite Int P d 1 0
def mset (M : Nat → Nat → Int) (k j : Nat) (v : Int) : Nat → Nat → Int := va_up M k (va_up (M k) j v)
theorem iI_T {z : Int} (h : zb z) : (iI z).toInt = z := Int32.toInt_ofInt_of_le (by have := h.1; omega) (by have := h.2; omega)
theorem iI_N {z : Int} (h : zb z) : (iI z).toNatClampNeg = z.toNat := Int32.toNatClampNeg_ofInt_of_le (by have := h.1; omega) (by have := h.2; omega)
theorem iI_eq {a b : Int} (ha : zb a) (hb : zb b) : iI a = iI b ↔ a = b := ⟨fun h => by rw [← iI_T ha, ← iI_T hb, h], fun h => by rw [h]⟩
theorem iI_lt {a b : Int} (ha : zb a) (hb : zb b) : iI a < iI b ↔ a < b := by rw [Int32.lt_iff_toInt_lt, iI_T ha, iI_T hb]
theorem iI_le {a b : Int} (ha : zb a) (hb : zb b) : iI a ≤ iI b ↔ a ≤ b := by rw [Int32.le_iff_toInt_le, iI_T ha, iI_T hb]
theorem iI_add (a b : Int) : iI a + iI b = iI (a + b) := (Int32.ofInt_add a b).symm
theorem iI_sub (a b : Int) : iI a - iI b = iI (a - b) := (Int32.ofInt_sub a b).symm
theorem iI_mul (a b : Int) : iI a * iI b = iI (a * b) := (Int32.ofInt_mul a b).symm
theorem iI_of (x : Int32) : iI x.toInt = x := Int32.ofInt_toInt x
theorem zb_of (x : Int32) : zb x.toInt := ⟨by have := Int32.le_toInt x; omega, by have := Int32.toInt_lt x; omega⟩
theorem iI_0 : iI 0 = 0 := rfl
theorem zb_0 : zb 0 := ⟨by omega, by omega⟩
theorem zb_nat {n : Nat} (h : n < 2147483648) : zb ((n : Nat) : Int) := ⟨by omega, by omega⟩
theorem iI_ne0 {b : Int} (h : zb b) (h0 : ¬ b = 0) : ¬ iI b = 0 := fun q => h0 ((iI_eq h zb_0).mp q)
theorem iI_div {a b : Int} (ha : zb a) (hb : zb b) (h0 : 0 < b) : iI a / iI b = iI (a.tdiv b) := by
  have hne : iI b ≠ -1 := fun q => by
    have h2 : (iI b).toInt = (-1 : Int32).toInt := by rw [q]
    rw [iI_T hb] at h2
    have h3 : (-1 : Int32).toInt = -1 := rfl
    omega
  have h1 : (iI a / iI b).toInt = a.tdiv b := by rw [Int32.toInt_div_of_ne_right _ _ hne, iI_T ha, iI_T hb]
  rw [← h1]
  exact (Int32.ofInt_toInt _).symm
theorem iI_in {n j : Nat} (hj : j < n) (hl : n < 2147483648) : vp_in (iI ((j : Nat) : Int)) n := by
  have hz : zb ((j : Nat) : Int) := zb_nat (by omega)
  intro h
  rcases h with h | h
  · have h2 := (iI_lt hz zb_0).mp h
    omega
  · rw [iI_N hz] at h
    omega
theorem bz_b (P : Prop) (d : Decidable P) : zb (bz P d) := by
  unfold bz
  split
  · exact ⟨by omega, by omega⟩
  · exact ⟨by omega, by omega⟩
theorem bz_t {P : Prop} {d : Decidable P} (h : P) : bz P d = 1 := if_pos h
theorem bz_f {P : Prop} {d : Decidable P} (h : ¬ P) : bz P d = 0 := if_neg h
theorem bz_0 {P : Prop} {d : Decidable P} : iI (bz P d) = 0 ↔ ¬ P := by
  constructor
  · intro h hp
    rw [bz_t hp] at h
    exact absurd h (by decide)
  · intro h
    rw [bz_f h]
    rfl
/-- a world: n cells, the k-th at 'ad k', its numbers the k-th row -/
def wlN (n : Nat) (ad : Nat → Nat) (ce : Nat → (Nat → Int) → va_E) (M : Nat → Nat → Int) : va_W := (List.range n).map fun k => (ad k, ce k (M k))
theorem wl_at {n : Nat} {ad : Nat → Nat} {ce : Nat → (Nat → Int) → va_E} {M : Nat → Nat → Int} {k : Nat} (h : k < n) : (wlN n ad ce M)[k]? = some (ad k, ce k (M k)) := by
  simp [wlN, h]
theorem wl_atE {n : Nat} {ad : Nat → Nat} {ce : Nat → (Nat → Int) → va_E} {M : Nat → Nat → Int} {k : Nat} {e : va_E} (h : k < n) (he : ce k (M k) = e) : (wlN n ad ce M)[k]? = some (ad k, e) := by
  rw [wl_at h, he]
theorem wl_set {n : Nat} {ad : Nat → Nat} {ce ce' : Nat → (Nat → Int) → va_E} {M : Nat → Nat → Int} {k : Nat} {r : Nat → Int} (hc : ∀ j, j ≠ k → ce' j = ce j) (h : k < n) : (wlN n ad ce M).set k (ad k, ce' k r) = wlN n ad ce' (va_up M k r) := by
  apply List.ext_getElem?
  intro i
  by_cases hi : i < n
  · rw [wl_at hi]
    by_cases hk : k = i
    · subst hk
      rw [List.getElem?_set_self (by simp [wlN]; exact h)]
      simp [va_up]
    · rw [List.getElem?_set_ne hk, wl_at hi, hc i (Ne.symm hk)]
      simp [va_up, Ne.symm hk]
  · rw [List.getElem?_eq_none (by simp [wlN]; omega), List.getElem?_eq_none (by simp [wlN]; omega)]
theorem wl_len {n : Nat} {ad : Nat → Nat} {ce : Nat → (Nat → Int) → va_E} {M : Nat → Nat → Int} : (wlN n ad ce M).length = n := by simp [wlN]
section ZR
variable {p : Program} {l : Launch} {e : Env} {R : Room} {s : State} {m : MethodId} {args : Array Value} {below : List Frame} {meth : Method} {c : Code} {H : Heap} {locs : List Loc} {cells slots : Nat} {Q : State → Prop}
variable {cc : ByteArray} {pc : Nat} {ls : Array Slot} {rest : List Value} {a b : Int}
theorem z_iconst (hexec : p.tables.exec = Jvm.exec) (hb : c.code = cc) {z : Int} (hdg : decode cc pc = .ok (.iconst z, 1))
    (k : W p l e R s m args below meth c H locs cells slots Q (F0 m (pc + 1) ls (.int (iI z) :: rest))) : W p l e R s m args below meth c H locs cells slots Q (F0 m pc ls rest) := lv_iconst hexec hb hdg rfl k
theorem z_bipush (hexec : p.tables.exec = Jvm.exec) (hb : c.code = cc) {z : Int} (hdg : decode cc pc = .ok (.bipush z, 2)) (hv : (Int8.ofInt z).toInt32 = iI z)
    (k : W p l e R s m args below meth c H locs cells slots Q (F0 m (pc + 2) ls (.int (iI z) :: rest))) : W p l e R s m args below meth c H locs cells slots Q (F0 m pc ls rest) := lv_bipush hexec hb hdg hv k
theorem z_sipush (hexec : p.tables.exec = Jvm.exec) (hb : c.code = cc) {z : Int} (hdg : decode cc pc = .ok (.sipush z, 3)) (hv : (Int16.ofInt z).toInt32 = iI z)
    (k : W p l e R s m args below meth c H locs cells slots Q (F0 m (pc + 3) ls (.int (iI z) :: rest))) : W p l e R s m args below meth c H locs cells slots Q (F0 m pc ls rest) := lv_sipush hexec hb hdg hv k
theorem z_iadd (hexec : p.tables.exec = Jvm.exec) (hb : c.code = cc) (hdg : decode cc pc = .ok (.iadd, 1)) {v : Int} (hv : a + b = v)
    (k : W p l e R s m args below meth c H locs cells slots Q (F0 m (pc + 1) ls (.int (iI v) :: rest))) : W p l e R s m args below meth c H locs cells slots Q (F0 m pc ls (.int (iI b) :: .int (iI a) :: rest)) :=
  lv_iadd hexec hb hdg (by rw [iI_add, hv]; exact k)
theorem z_isub (hexec : p.tables.exec = Jvm.exec) (hb : c.code = cc) (hdg : decode cc pc = .ok (.isub, 1)) {v : Int} (hv : a - b = v)
    (k : W p l e R s m args below meth c H locs cells slots Q (F0 m (pc + 1) ls (.int (iI v) :: rest))) : W p l e R s m args below meth c H locs cells slots Q (F0 m pc ls (.int (iI b) :: .int (iI a) :: rest)) :=
  lv_isub hexec hb hdg (by rw [iI_sub, hv]; exact k)
theorem z_imul (hexec : p.tables.exec = Jvm.exec) (hb : c.code = cc) (hdg : decode cc pc = .ok (.imul, 1)) {v : Int} (hv : a * b = v)
    (k : W p l e R s m args below meth c H locs cells slots Q (F0 m (pc + 1) ls (.int (iI v) :: rest))) : W p l e R s m args below meth c H locs cells slots Q (F0 m pc ls (.int (iI b) :: .int (iI a) :: rest)) :=
  lv_imul hexec hb hdg (by rw [iI_mul, hv]; exact k)
theorem z_idiv (hexec : p.tables.exec = Jvm.exec) (hb : c.code = cc) (hdg : decode cc pc = .ok (.idiv, 1)) (ha : zb a) (hbb : zb b) (h0 : 0 < b) {v : Int} (hv : a.tdiv b = v)
    (k : W p l e R s m args below meth c H locs cells slots Q (F0 m (pc + 1) ls (.int (iI v) :: rest))) : W p l e R s m args below meth c H locs cells slots Q (F0 m pc ls (.int (iI b) :: .int (iI a) :: rest)) :=
  lv_idiv hexec hb hdg (iI_ne0 hbb (by omega)) (by rw [iI_div ha hbb h0, hv]; exact k)
theorem z_irem (hexec : p.tables.exec = Jvm.exec) (hb : c.code = cc) (hdg : decode cc pc = .ok (.irem, 1)) (ha : zb a) (hbb : zb b) (h0 : 0 < b) {v : Int} (hv : a - a.tdiv b * b = v)
    (k : W p l e R s m args below meth c H locs cells slots Q (F0 m (pc + 1) ls (.int (iI v) :: rest))) : W p l e R s m args below meth c H locs cells slots Q (F0 m pc ls (.int (iI b) :: .int (iI a) :: rest)) :=
  lv_irem hexec hb hdg (iI_ne0 hbb (by omega)) (by rw [iI_div ha hbb h0, iI_mul, iI_sub, hv]; exact k)
theorem z_iinc (hexec : p.tables.exec = Jvm.exec) (hb : c.code = cc) {i nL k : Nat} {n : Int} {v : Int} {lv lv' : List (Nat × Value)} (hdg : decode cc pc = .ok (.iinc i n, 3)) (h : lv_has ls nL lv) (hk : lv[k]? = some (i, .int (iI a))) (hv : a + n = v) (hn : i < nL) (hl : (i, Value.int (iI v)) :: lv.filter (fun q => !(q.1 == i) && !(q.1 + 1 == i && q.2.category == 2)) = lv')
    (kk : ∀ ls' : Array Slot, lv_has ls' nL lv' → W p l e R s m args below meth c H locs cells slots Q (F0 m (pc + 3) ls' rest)) : W p l e R s m args below meth c H locs cells slots Q (F0 m pc ls rest) :=
  lv_iinc hexec hb hdg h hk (by rw [← hv]; exact iI_add a n) hn hl kk
theorem z_if_eq (hexec : p.tables.exec = Jvm.exec) (hb : c.code = cc) {off : Int} {tgt : Nat} (hdg : decode cc pc = .ok (.ifCond .eq off, 3)) (ht : (pc : Int) + off = (tgt : Int)) (ha : zb a)
    (kt : a = 0 → W p l e R s m args below meth c H locs cells slots Q (F0 m tgt ls rest)) (kf : ¬ a = 0 → W p l e R s m args below meth c H locs cells slots Q (F0 m (pc + 3) ls rest)) : W p l e R s m args below meth c H locs cells slots Q (F0 m pc ls (.int (iI a) :: rest)) :=
  lv_if_eq hexec hb hdg ht (fun h => kt ((iI_eq ha zb_0).mp h)) (fun h => kf fun q => h (by rw [q]; rfl))
theorem z_if_ne (hexec : p.tables.exec = Jvm.exec) (hb : c.code = cc) {off : Int} {tgt : Nat} (hdg : decode cc pc = .ok (.ifCond .ne off, 3)) (ht : (pc : Int) + off = (tgt : Int)) (ha : zb a)
    (kt : ¬ a = 0 → W p l e R s m args below meth c H locs cells slots Q (F0 m tgt ls rest)) (kf : a = 0 → W p l e R s m args below meth c H locs cells slots Q (F0 m (pc + 3) ls rest)) : W p l e R s m args below meth c H locs cells slots Q (F0 m pc ls (.int (iI a) :: rest)) :=
  lv_if_ne hexec hb hdg ht (fun h => kt fun q => h (by rw [q]; rfl)) (fun h => kf ((iI_eq ha zb_0).mp h))
theorem z_ifb_eq (hexec : p.tables.exec = Jvm.exec) (hb : c.code = cc) {off : Int} {tgt : Nat} {P : Prop} {d : Decidable P} (hdg : decode cc pc = .ok (.ifCond .eq off, 3)) (ht : (pc : Int) + off = (tgt : Int))
    (kt : ¬ P → W p l e R s m args below meth c H locs cells slots Q (F0 m tgt ls rest)) (kf : P → W p l e R s m args below meth c H locs cells slots Q (F0 m (pc + 3) ls rest)) : W p l e R s m args below meth c H locs cells slots Q (F0 m pc ls (.int (iI (bz P d)) :: rest)) :=
  lv_if_eq hexec hb hdg ht (fun h => kt (bz_0.mp h)) (fun h => kf (Decidable.byContradiction fun q => h (bz_0.mpr q)))
theorem z_ifb_ne (hexec : p.tables.exec = Jvm.exec) (hb : c.code = cc) {off : Int} {tgt : Nat} {P : Prop} {d : Decidable P} (hdg : decode cc pc = .ok (.ifCond .ne off, 3)) (ht : (pc : Int) + off = (tgt : Int))
    (kt : P → W p l e R s m args below meth c H locs cells slots Q (F0 m tgt ls rest)) (kf : ¬ P → W p l e R s m args below meth c H locs cells slots Q (F0 m (pc + 3) ls rest)) : W p l e R s m args below meth c H locs cells slots Q (F0 m pc ls (.int (iI (bz P d)) :: rest)) :=
  lv_if_ne hexec hb hdg ht (fun h => kt (Decidable.byContradiction fun q => h (bz_0.mpr q))) (fun h => kf (bz_0.mp h))
theorem z_if_lt (hexec : p.tables.exec = Jvm.exec) (hb : c.code = cc) {off : Int} {tgt : Nat} (hdg : decode cc pc = .ok (.ifCond .lt off, 3)) (ht : (pc : Int) + off = (tgt : Int)) (ha : zb a)
    (kt : a < 0 → W p l e R s m args below meth c H locs cells slots Q (F0 m tgt ls rest)) (kf : ¬ a < 0 → W p l e R s m args below meth c H locs cells slots Q (F0 m (pc + 3) ls rest)) : W p l e R s m args below meth c H locs cells slots Q (F0 m pc ls (.int (iI a) :: rest)) :=
  lv_if_lt hexec hb hdg ht (fun h => kt ((iI_lt ha zb_0).mp h)) (fun h => kf fun q => h ((iI_lt ha zb_0).mpr q))
theorem z_if_ge (hexec : p.tables.exec = Jvm.exec) (hb : c.code = cc) {off : Int} {tgt : Nat} (hdg : decode cc pc = .ok (.ifCond .ge off, 3)) (ht : (pc : Int) + off = (tgt : Int)) (ha : zb a)
    (kt : 0 ≤ a → W p l e R s m args below meth c H locs cells slots Q (F0 m tgt ls rest)) (kf : ¬ 0 ≤ a → W p l e R s m args below meth c H locs cells slots Q (F0 m (pc + 3) ls rest)) : W p l e R s m args below meth c H locs cells slots Q (F0 m pc ls (.int (iI a) :: rest)) :=
  lv_if_ge hexec hb hdg ht (fun h => kt ((iI_le zb_0 ha).mp h)) (fun h => kf fun q => h ((iI_le zb_0 ha).mpr q))
theorem z_if_gt (hexec : p.tables.exec = Jvm.exec) (hb : c.code = cc) {off : Int} {tgt : Nat} (hdg : decode cc pc = .ok (.ifCond .gt off, 3)) (ht : (pc : Int) + off = (tgt : Int)) (ha : zb a)
    (kt : 0 < a → W p l e R s m args below meth c H locs cells slots Q (F0 m tgt ls rest)) (kf : ¬ 0 < a → W p l e R s m args below meth c H locs cells slots Q (F0 m (pc + 3) ls rest)) : W p l e R s m args below meth c H locs cells slots Q (F0 m pc ls (.int (iI a) :: rest)) :=
  lv_if_gt hexec hb hdg ht (fun h => kt ((iI_lt zb_0 ha).mp h)) (fun h => kf fun q => h ((iI_lt zb_0 ha).mpr q))
theorem z_if_le (hexec : p.tables.exec = Jvm.exec) (hb : c.code = cc) {off : Int} {tgt : Nat} (hdg : decode cc pc = .ok (.ifCond .le off, 3)) (ht : (pc : Int) + off = (tgt : Int)) (ha : zb a)
    (kt : a ≤ 0 → W p l e R s m args below meth c H locs cells slots Q (F0 m tgt ls rest)) (kf : ¬ a ≤ 0 → W p l e R s m args below meth c H locs cells slots Q (F0 m (pc + 3) ls rest)) : W p l e R s m args below meth c H locs cells slots Q (F0 m pc ls (.int (iI a) :: rest)) :=
  lv_if_le hexec hb hdg ht (fun h => kt ((iI_le ha zb_0).mp h)) (fun h => kf fun q => h ((iI_le ha zb_0).mpr q))
theorem z_icmp_eq (hexec : p.tables.exec = Jvm.exec) (hb : c.code = cc) {off : Int} {tgt : Nat} (hdg : decode cc pc = .ok (.if_icmp .eq off, 3)) (ht : (pc : Int) + off = (tgt : Int)) (ha : zb a) (hbb : zb b)
    (kt : a = b → W p l e R s m args below meth c H locs cells slots Q (F0 m tgt ls rest)) (kf : ¬ a = b → W p l e R s m args below meth c H locs cells slots Q (F0 m (pc + 3) ls rest)) : W p l e R s m args below meth c H locs cells slots Q (F0 m pc ls (.int (iI b) :: .int (iI a) :: rest)) :=
  lv_icmp_eq hexec hb hdg ht (fun h => kt ((iI_eq ha hbb).mp h)) (fun h => kf fun q => h (by rw [q]))
theorem z_icmp_ne (hexec : p.tables.exec = Jvm.exec) (hb : c.code = cc) {off : Int} {tgt : Nat} (hdg : decode cc pc = .ok (.if_icmp .ne off, 3)) (ht : (pc : Int) + off = (tgt : Int)) (ha : zb a) (hbb : zb b)
    (kt : ¬ a = b → W p l e R s m args below meth c H locs cells slots Q (F0 m tgt ls rest)) (kf : a = b → W p l e R s m args below meth c H locs cells slots Q (F0 m (pc + 3) ls rest)) : W p l e R s m args below meth c H locs cells slots Q (F0 m pc ls (.int (iI b) :: .int (iI a) :: rest)) :=
  lv_icmp_ne hexec hb hdg ht (fun h => kt fun q => h (by rw [q])) (fun h => kf ((iI_eq ha hbb).mp h))
theorem z_icmp_lt (hexec : p.tables.exec = Jvm.exec) (hb : c.code = cc) {off : Int} {tgt : Nat} (hdg : decode cc pc = .ok (.if_icmp .lt off, 3)) (ht : (pc : Int) + off = (tgt : Int)) (ha : zb a) (hbb : zb b)
    (kt : a < b → W p l e R s m args below meth c H locs cells slots Q (F0 m tgt ls rest)) (kf : ¬ a < b → W p l e R s m args below meth c H locs cells slots Q (F0 m (pc + 3) ls rest)) : W p l e R s m args below meth c H locs cells slots Q (F0 m pc ls (.int (iI b) :: .int (iI a) :: rest)) :=
  lv_icmp_lt hexec hb hdg ht (fun h => kt ((iI_lt ha hbb).mp h)) (fun h => kf fun q => h ((iI_lt ha hbb).mpr q))
theorem z_icmp_ge (hexec : p.tables.exec = Jvm.exec) (hb : c.code = cc) {off : Int} {tgt : Nat} (hdg : decode cc pc = .ok (.if_icmp .ge off, 3)) (ht : (pc : Int) + off = (tgt : Int)) (ha : zb a) (hbb : zb b)
    (kt : b ≤ a → W p l e R s m args below meth c H locs cells slots Q (F0 m tgt ls rest)) (kf : ¬ b ≤ a → W p l e R s m args below meth c H locs cells slots Q (F0 m (pc + 3) ls rest)) : W p l e R s m args below meth c H locs cells slots Q (F0 m pc ls (.int (iI b) :: .int (iI a) :: rest)) :=
  lv_icmp_ge hexec hb hdg ht (fun h => kt ((iI_le hbb ha).mp h)) (fun h => kf fun q => h ((iI_le hbb ha).mpr q))
theorem z_icmp_gt (hexec : p.tables.exec = Jvm.exec) (hb : c.code = cc) {off : Int} {tgt : Nat} (hdg : decode cc pc = .ok (.if_icmp .gt off, 3)) (ht : (pc : Int) + off = (tgt : Int)) (ha : zb a) (hbb : zb b)
    (kt : b < a → W p l e R s m args below meth c H locs cells slots Q (F0 m tgt ls rest)) (kf : ¬ b < a → W p l e R s m args below meth c H locs cells slots Q (F0 m (pc + 3) ls rest)) : W p l e R s m args below meth c H locs cells slots Q (F0 m pc ls (.int (iI b) :: .int (iI a) :: rest)) :=
  lv_icmp_gt hexec hb hdg ht (fun h => kt ((iI_lt hbb ha).mp h)) (fun h => kf fun q => h ((iI_lt hbb ha).mpr q))
theorem z_icmp_le (hexec : p.tables.exec = Jvm.exec) (hb : c.code = cc) {off : Int} {tgt : Nat} (hdg : decode cc pc = .ok (.if_icmp .le off, 3)) (ht : (pc : Int) + off = (tgt : Int)) (ha : zb a) (hbb : zb b)
    (kt : a ≤ b → W p l e R s m args below meth c H locs cells slots Q (F0 m tgt ls rest)) (kf : ¬ a ≤ b → W p l e R s m args below meth c H locs cells slots Q (F0 m (pc + 3) ls rest)) : W p l e R s m args below meth c H locs cells slots Q (F0 m pc ls (.int (iI b) :: .int (iI a) :: rest)) :=
  lv_icmp_le hexec hb hdg ht (fun h => kt ((iI_le ha hbb).mp h)) (fun h => kf fun q => h ((iI_le ha hbb).mpr q))
end ZR
end
section
/-! Rows over the worlds wlN: loads, stores, fields, calls. My own rows over the kit's. -/
section ZW
variable {p : Program} {l : Launch} {e : Env} {R : Room} {s : State} {m : MethodId} {args : Array Value} {below : List Frame} {meth : Method} {c : Code} {H : Heap} {locs : List Loc} {cells slots : Nat} {Q : State → Prop}
variable {cc : ByteArray} {pc : Nat} {ls : Array Slot} {rest : List Value} {D : va_G} {cl : List vw_C} {A : Nat → Prop} {tys : List (ClassId × FieldType)} {H0 : Heap} {n : Nat} {ad : Nat → Nat} {ce : Nat → (Nat → Int) → va_E} {M : Nat → Nat → Int}
theorem z_iald (hexec : p.tables.exec = Jvm.exec) (hb : c.code = cc) (hK : va_K D cl tys s) (hP : va_P D cl (wlN n ad ce M) H) (k t0 : Nat) (hk : k < n) {cA : ClassId} {len : Nat} (hc : ∀ r, ce k r = .inl (cA, len, .inl (fun j => iI (r j)))) (ht : tys[t0]? = some (cA, .int)) {z : Int} (j : Nat) (hz : z = ((j : Nat) : Int)) (hj : j < len) (hl : len < 2147483648) (hdg : decode cc pc = .ok (.iaload, 1))
    (kk : W p l e R s m args below meth c H locs cells slots Q (F0 m (pc + 1) ls (.int (iI (M k j)) :: rest))) : W p l e R s m args below meth c H locs cells slots Q (F0 m pc ls (.int (iI z) :: .ref (ad k) :: rest)) := by
  subst hz
  refine va_iald hexec hb hK hP k t0 (wl_atE hk (hc (M k))) ht (iI_in hj hl) hdg ?_
  rw [iI_N (zb_nat (by omega)), Int.toNat_natCast]
  exact kk
theorem z_iast (hexec : p.tables.exec = Jvm.exec) (hb : c.code = cc) (hK : va_K D cl tys s) (hP : va_P D cl (wlN n ad ce M) H) (hD : va_D A (wlN n ad ce M)) (hS : va_S A H0 H locs) (k t0 : Nat) (hk : k < n) {cA : ClassId} {len : Nat} (hc : ∀ r, ce k r = .inl (cA, len, .inl (fun j => iI (r j)))) (ht : tys[t0]? = some (cA, .int)) {z v : Int} (j : Nat) (hz : z = ((j : Nat) : Int)) (hj : j < len) (hl : len < 2147483648) (hdg : decode cc pc = .ok (.iastore, 1))
    (kk : ∀ (H1 : Heap) (locs1 : List Loc), va_P D cl (wlN n ad ce (mset M k j v)) H1 → va_D A (wlN n ad ce (mset M k j v)) → va_S A H0 H1 locs1 → W p l e R s m args below meth c H1 locs1 cells slots Q (F0 m (pc + 1) ls rest)) : W p l e R s m args below meth c H locs cells slots Q (F0 m pc ls (.int (iI v) :: .int (iI z) :: .ref (ad k) :: rest)) := by
  subst hz
  have he : ∀ w : Nat → Int, w = va_up (M k) j v → (wlN n ad ce M).set k (ad k, .inl (cA, len, .inl (upd (fun j => iI (M k j)) (iI ((j : Nat) : Int)).toNatClampNeg (iI v)))) = wlN n ad ce (mset M k j v) := by
    intro w hw
    rw [iI_N (zb_nat (by omega)), Int.toNat_natCast]
    have h1 : upd (fun j => iI (M k j)) j (iI v) = fun i => iI (va_up (M k) j v i) := by
      funext i
      by_cases hi : i = j
      · subst hi
        simp [upd, va_up]
      · simp [upd, va_up, hi]
    rw [h1, ← hc (va_up (M k) j v)]
    exact wl_set (fun _ _ => rfl) hk
  refine va_iast hexec hb hK hP hD hS k t0 (wl_atE hk (hc (M k))) ht (iI_in hj hl) hdg fun H1 locs1 h1 h2 h3 => ?_
  rw [he _ rfl] at h1 h2
  exact kk H1 locs1 h1 h2 h3
/-- a reference out of an array of references that are all cells of the world -/
theorem z_aald (hexec : p.tables.exec = Jvm.exec) (hb : c.code = cc) (hK : va_K D cl tys s) (hP : va_P D cl (wlN n ad ce M) H) (k t0 : Nat) (hk : k < n) {cA : ClassId} {len : Nat} {g : Nat → Nat} (hc : ∀ r, ce k r = .inl (cA, len, .inr (.inr (.inr (.inr (fun j => some (ad (g j)))))))) {ty : FieldType} (ht : tys[t0]? = some (cA, ty)) (hty : ty.isReference = true) {z : Int} (j : Nat) (hz : z = ((j : Nat) : Int)) (hj : j < len) (hl : len < 2147483648) (hdg : decode cc pc = .ok (.aaload, 1))
    (kk : W p l e R s m args below meth c H locs cells slots Q (F0 m (pc + 1) ls (.ref (ad (g j)) :: rest))) : W p l e R s m args below meth c H locs cells slots Q (F0 m pc ls (.int (iI z) :: .ref (ad k) :: rest)) := by
  subst hz
  have ha := wl_atE (n := n) (ad := ad) (M := M) hk (hc (M k))
  have hin := iI_in hj hl
  have hlt : (iI ((j : Nat) : Int)).toNatClampNeg < len := Nat.not_le.mp fun q => hin (Or.inr q)
  refine W.aald (v := .ref (ad (g j))) (ty := ty) hexec hb (hP k _ ha) ((hK.2 t0 _ ht).1 len (fun j => va_rf (some (ad (g j))))) hty (fun q => by cases q) (by show ¬ (_ < 0 ∨ (arrV _ _ _).slots.size ≤ _); rw [arrV_size]; exact hin) (by show (arrV _ _ _).slots[_]? = _; rw [arrV_read _ _ hlt, iI_N (zb_nat (by omega)), Int.toNat_natCast]; rfl) rfl rfl hdg kk
theorem z_get (hexec : p.tables.exec = Jvm.exec) (hb : c.code = cc) {own ref C : String} {T : u_T} {N ci index : Nat} {Ts : List Cond} (hts : ∀ w ∈ Ts, w.before args s = true) (hin : ∀ w ∈ u_ws C T N, w ∈ Ts) (hown : s.vm.findClass own = some m.cls) (hK : va_K D cl tys s) (hP : va_P D cl (wlN n ad ce M) H) (q : Nat) (hq : q < n) {fs : List Value} (he : ce q (M q) = .inr (ci, fs)) (hc : cl[ci]? = some (C, T, N)) (k : Nat) (hk : k < N) (hlink : (Cond.fieldLink own index ref (T k).2.1 (T k).2.2.1).before args s = true) (hsame : ∀ x, s.fieldFound? (T k).1 (T k).2.1 (T k).2.2.1 = some x → s.fieldFound? ref (T k).2.1 (T k).2.2.1 = some x) {v : Value} (hv : fs[k]? = some v) (hdg : decode cc pc = .ok (.getfield index, 3))
    (kk : W p l e R s m args below meth c H locs cells slots Q (F0 m (pc + 3) ls (v :: rest))) : W p l e R s m args below meth c H locs cells slots Q (F0 m pc ls (.ref (ad q) :: rest)) :=
  va_get hexec hb hts hin hown hK hP q (wl_atE hq he) hc k hk hlink hsame hv hdg kk
theorem z_put (hexec : p.tables.exec = Jvm.exec) (hb : c.code = cc) {own ref C : String} {T : u_T} {N ci index : Nat} {Ts : List Cond} (hts : ∀ w ∈ Ts, w.before args s = true) (hin : ∀ w ∈ u_ws C T N, w ∈ Ts) (ty0 : Nat → FieldType) (hty : ∀ k, k < N → parseFieldDescriptor (T k).2.2.1 = some (ty0 k)) (hnm : ∀ a, a < N → ∀ b, b < N → a ≠ b → (T a).2.1 ≠ (T b).2.1) (hown : s.vm.findClass own = some m.cls) (hK : va_K D cl tys s) (hP : va_P D cl (wlN n ad ce M) H) (hD : va_D A (wlN n ad ce M)) (hS : va_S A H0 H locs) (q : Nat) (hq : q < n) {ce' : Nat → (Nat → Int) → va_E} {fs : List Value} (he : ce q (M q) = .inr (ci, fs)) (hc : cl[ci]? = some (C, T, N)) (k : Nat) (hk : k < N) (hlink : (Cond.fieldLink own index ref (T k).2.1 (T k).2.2.1).before args s = true) (hsame : ∀ x, s.fieldFound? (T k).1 (T k).2.1 (T k).2.2.1 = some x → s.fieldFound? ref (T k).2.1 (T k).2.2.1 = some x) (hfin : (T k).2.2.2 = false) {ty : FieldType} {v : Value} (hd : parseFieldDescriptor (T k).2.2.1 = some ty) (hn : narrow ty v = v) (hfit : fits ty v = true) (hl : k < fs.length) (hce : ∀ j, j ≠ q → ce' j = ce j) {r : Nat → Int} (hset : ce' q r = .inr (ci, fs.set k v))
    (hdg : decode cc pc = .ok (.putfield index, 3)) (kk : ∀ (H1 : Heap) (locs1 : List Loc), va_P D cl (wlN n ad ce' (va_up M q r)) H1 → va_D A (wlN n ad ce' (va_up M q r)) → va_S A H0 H1 locs1 → W p l e R s m args below meth c H1 locs1 cells slots Q (F0 m (pc + 3) ls rest)) : W p l e R s m args below meth c H locs cells slots Q (F0 m pc ls (v :: .ref (ad q) :: rest)) := by
  refine va_put hexec hb hts hin ty0 hty hnm hown hK hP hD hS q (wl_atE hq he) hc k hk hlink hsame hfin hd hn hfit hl hdg fun H1 locs1 h1 h2 h3 => ?_
  rw [← hset, wl_set hce hq] at h1 h2
  exact kk H1 locs1 h1 h2 h3
theorem z_mmax (hexec : p.tables.exec = Jvm.exec) (hb : c.code = cc) (hml : c.maxLocals = ls.size) {own : String} {index : Nat} (hown : s.vm.findClass own = some m.cls) (hlink : (Cond.methodLink own index Lib.Math.max.name).before args s = true) (hstat : (Cond.static Lib.Math.max.name).before args s = true) (hini : (Cond.initialized "java/lang/Math").before args s = true) (hcode : (Cond.code Lib.Math.max.name Lib.Math.max.code 2 (some .int)).before args s = true)
    (hframes : 1 ≤ R.frames) (hlocals : (rest.map fun v => v.category).sum + 13 ≤ R.locals) (hc : cells ≤ R.cells) (hs : slots ≤ R.slots) {a b : Int} (ha : zb a) (hbb : zb b) (hdg : decode cc pc = .ok (.invokestatic index, 3)) {v : Int} (hv : max a b = v)
    (kk : W p l e R s m args below meth c H locs cells slots Q (F0 m (pc + 3) ls (.int (iI v) :: rest))) : W p l e R s m args below meth c H locs cells slots Q (F0 m pc ls (.int (iI b) :: .int (iI a) :: rest)) := by
  refine va_mmax hexec hb hml hown hlink hstat hini hcode hframes hlocals hc hs hdg ?_
  have h1 : (if iI a < iI b then iI b else iI a) = iI v := by
    rw [← hv]
    by_cases h : a < b
    · rw [if_pos ((iI_lt ha hbb).mpr h), Int.max_eq_right (by omega)]
    · rw [if_neg (fun q => h ((iI_lt ha hbb).mp q)), Int.max_eq_left (by omega)]
  rw [h1]
  exact kk
/-- what a method that only reads starts from -/
def ro_B (D : va_G) (cl : List vw_C) (tys : List (ClassId × FieldType)) (w : va_W) (U : State) : Prop := va_P D cl w U.heap ∧ va_K D cl tys U
def rw_B (D : va_G) (cl : List vw_C) (tys : List (ClassId × FieldType)) (w : va_W) (sz : Nat) (U : State) : Prop := U.heap.size = sz ∧ va_P D cl w U.heap ∧ va_K D cl tys U ∧ va_D (fun _ => True) w
def rw_E (D : va_G) (cl : List vw_C) (tys : List (ClassId × FieldType)) (w w' : va_W) (sz : Nat) (_ : Unit) (t : State) : Prop := va_P D cl w' t.heap ∧ va_K D cl tys t ∧ va_D (va_A w sz) w'
theorem ro_blind {av : List Value} {w : va_W} : FrameBlind (va_Pc av (ro_B D cl tys w)) := fun a U g mk q => by
  obtain ⟨q0, qP, qK⟩ := q
  exact ⟨q0, qP, va_K.moved (u := U) (U := U.calling g mk a) (Vm.Alike.refl U.vm) qK⟩
theorem rw_blind {av : List Value} {w : va_W} {sz : Nat} : FrameBlind (va_Pc av (rw_B D cl tys w sz)) := fun a U g mk q => by
  obtain ⟨q0, q1, qP, qK, qD⟩ := q
  exact ⟨q0, q1, qP, va_K.moved (u := U) (U := U.calling g mk a) (Vm.Alike.refl U.vm) qK, qD⟩
variable {y : MethodName} {bytes : ByteArray} {maxL nL na index : Nat} {ret : Option FieldType} {ws : List Cond} {rm : Room} {Ts : List Cond} {own C : String} {As st0 : List Value} {w w' : va_W} {z : Int}
/-- a call on an object, that only reads: its answer -/
theorem ro_V {b : Nat} (S : CallFix p m c cc nL s args Ts own) (hM : Met l y ws rm (va_Pc (.ref b :: As) (ro_B D cl tys w)) (vp_Si (fun r => r = iI z)) 0 0 (fun _ => False)) (cw : CallW R s args own C index y bytes maxL ret ws rm 0 0 na) (hK : va_K D cl tys s) (hP : va_P D cl w H) (hrc : ∃ cell : Cell, H[b]? = some cell ∧ cell.vm.isStatics = false ∧ s.vm.findClass C = some cell.cls) (hn : As.length = na) (hsize : ls.size = nL) (hst : st0 = As.reverse ++ .ref b :: rest) (hW : (rest.map fun v => v.category).sum ≤ 8) (hdg : decode cc pc = .ok (.invokevirtual index, 3)) (hf : cells + 0 ≤ R.cells ∧ slots + 0 ≤ R.slots)
    (kk : W p l e R s m args below meth c H locs cells slots Q (F0 m (pc + 3) ls (.int (iI z) :: rest))) : W p l e R s m args below meth c H locs cells slots Q (F0 m pc ls st0) :=
  vp_callSi (W.runV (As := As) (rest := rest) S hM cw ⟨ro_blind, hrc, fun U hU hW => ⟨rfl, by rw [hU]; exact hP, va_K.moved hW.alike hK⟩⟩ rfl hn hsize hst (lv_room hW) hdg hf) (fun r hr => by rw [hr]; exact kk)
theorem ro_S (S : CallFix p m c cc nL s args Ts own) (hM : Met l y ws rm (va_Pc As (ro_B D cl tys w)) (vp_Si (fun r => r = iI z)) 0 0 (fun _ => False)) (cw : CallB R s args own index y bytes maxL ret ws rm 0 0 na ∧ (Cond.static y).before args s = true) (hK : va_K D cl tys s) (hP : va_P D cl w H) (hn : As.length = na) (hsize : ls.size = nL) (hst : st0 = As.reverse ++ rest) (hW : (rest.map fun v => v.category).sum ≤ 8) (hdg : decode cc pc = .ok (.invokestatic index, 3)) (hf : cells + 0 ≤ R.cells ∧ slots + 0 ≤ R.slots)
    (kk : W p l e R s m args below meth c H locs cells slots Q (F0 m (pc + 3) ls (.int (iI z) :: rest))) : W p l e R s m args below meth c H locs cells slots Q (F0 m pc ls st0) :=
  vp_callSi (W.runS (As := As) (rest := rest) S hM cw ⟨ro_blind, fun U hU hW => ⟨rfl, by rw [hU]; exact hP, va_K.moved hW.alike hK⟩⟩ rfl hn hsize hst (lv_room hW) hdg hf) (fun r hr => by rw [hr]; exact kk)
/-- a call on an object that only reads and hands back a cell -/
theorem ro_Vr {b x : Nat} (S : CallFix p m c cc nL s args Ts own) (hM : Met l y ws rm (va_Pc (.ref b :: As) (ro_B D cl tys w)) (va_Sr (fun k => k = x) (fun k => .ref k)) 0 0 (fun _ => False)) (cw : CallW R s args own C index y bytes maxL ret ws rm 0 0 na) (hK : va_K D cl tys s) (hP : va_P D cl w H) (hrc : ∃ cell : Cell, H[b]? = some cell ∧ cell.vm.isStatics = false ∧ s.vm.findClass C = some cell.cls) (hn : As.length = na) (hsize : ls.size = nL) (hst : st0 = As.reverse ++ .ref b :: rest) (hW : (rest.map fun v => v.category).sum ≤ 8) (hdg : decode cc pc = .ok (.invokevirtual index, 3)) (hf : cells + 0 ≤ R.cells ∧ slots + 0 ≤ R.slots)
    (kk : W p l e R s m args below meth c H locs cells slots Q (F0 m (pc + 3) ls (.ref x :: rest))) : W p l e R s m args below meth c H locs cells slots Q (F0 m pc ls st0) :=
  va_csr (W.runV (As := As) (rest := rest) S hM cw ⟨ro_blind, hrc, fun U hU hW => ⟨rfl, by rw [hU]; exact hP, va_K.moved hW.alike hK⟩⟩ rfl hn hsize hst (lv_room hW) hdg hf) (fun k hk => by rw [hk]; exact kk)
theorem rw_free (hD : va_D A w) (hS : va_S A H0 H locs) (hA : ∀ q, H0.size ≤ q → A q) : ∀ q, va_A w H.size q → A q := by
  intro q h
  rcases h with ⟨k, e, h⟩ | h
  · exact hD.2 k (q, e) h
  · exact hA q (Nat.le_trans hS.1 h)
/-- a call on an object that writes: no answer -/
theorem rw_Vv {b : Nat} (S : CallFix p m c cc nL s args Ts own) (hM : Met l y ws rm (va_Pc (.ref b :: As) (rw_B D cl tys w H.size)) (va_Qv (fun _ : Unit => True) (rw_E D cl tys w w' H.size) (va_A w H.size)) 0 0 (va_A w H.size)) (cw : CallW R s args own C index y bytes maxL ret ws rm 0 0 na) (hK : va_K D cl tys s) (hP : va_P D cl w H) (hD : va_D A w) (hS : va_S A H0 H locs) (hA : ∀ q, H0.size ≤ q → A q) (hrc : ∃ cell : Cell, H[b]? = some cell ∧ cell.vm.isStatics = false ∧ s.vm.findClass C = some cell.cls) (hn : As.length = na) (hsize : ls.size = nL) (hst : st0 = As.reverse ++ .ref b :: rest) (hW : (rest.map fun v => v.category).sum ≤ 8) (hdg : decode cc pc = .ok (.invokevirtual index, 3)) (hf : cells + 0 ≤ R.cells ∧ slots + 0 ≤ R.slots)
    (kk : ∀ (H1 : Heap) (locs1 : List Loc), va_P D cl w' H1 → va_D A w' → va_S A H0 H1 locs1 → W p l e R s m args below meth c H1 locs1 cells slots Q (F0 m (pc + 3) ls rest)) : W p l e R s m args below meth c H locs cells slots Q (F0 m pc ls st0) := by
  have hF := rw_free hD hS hA
  refine va_callv (va_runV (As := As) (rest := rest) S hM cw ⟨rw_blind, hrc, fun U hU hW => ⟨rfl, by rw [hU], by rw [hU]; exact hP, va_K.moved hW.alike hK, hD.weaken (fun _ _ _ _ => trivial)⟩⟩ rfl hn hsize hst (lv_room hW) hdg hf) hS (fun q _ h => hF q h) hF (fun u t H1 locs1 ht hvm hw hB hz1 hk1 hS1 => ?_)
  obtain ⟨hP1, hK1, hD1⟩ := hB
  rw [ht] at hP1
  exact kk H1 locs1 hP1 (hD1.weaken (fun _ q _ h => hF q.1 h)) hS1
/-- a call on an object that writes: an int -/
theorem rw_Vi {b : Nat} (S : CallFix p m c cc nL s args Ts own) (hM : Met l y ws rm (va_Pc (.ref b :: As) (rw_B D cl tys w H.size)) (va_Qi (fun (r : Int32) (_ : Unit) => r = iI z) (rw_E D cl tys w w' H.size) (va_A w H.size)) 0 0 (va_A w H.size)) (cw : CallW R s args own C index y bytes maxL ret ws rm 0 0 na) (hK : va_K D cl tys s) (hP : va_P D cl w H) (hD : va_D A w) (hS : va_S A H0 H locs) (hA : ∀ q, H0.size ≤ q → A q) (hrc : ∃ cell : Cell, H[b]? = some cell ∧ cell.vm.isStatics = false ∧ s.vm.findClass C = some cell.cls) (hn : As.length = na) (hsize : ls.size = nL) (hst : st0 = As.reverse ++ .ref b :: rest) (hW : (rest.map fun v => v.category).sum ≤ 8) (hdg : decode cc pc = .ok (.invokevirtual index, 3)) (hf : cells + 0 ≤ R.cells ∧ slots + 0 ≤ R.slots)
    (kk : ∀ (H1 : Heap) (locs1 : List Loc), va_P D cl w' H1 → va_D A w' → va_S A H0 H1 locs1 → W p l e R s m args below meth c H1 locs1 cells slots Q (F0 m (pc + 3) ls (.int (iI z) :: rest))) : W p l e R s m args below meth c H locs cells slots Q (F0 m pc ls st0) := by
  have hF := rw_free hD hS hA
  refine va_calli (va_runV (As := As) (rest := rest) S hM cw ⟨rw_blind, hrc, fun U hU hW => ⟨rfl, by rw [hU], by rw [hU]; exact hP, va_K.moved hW.alike hK, hD.weaken (fun _ _ _ _ => trivial)⟩⟩ rfl hn hsize hst (lv_room hW) hdg hf) hS (fun q _ h => hF q h) hF (fun r u t H1 locs1 ht hvm hw hB hz1 hk1 hS1 => ?_)
  obtain ⟨hP1, hK1, hD1⟩ := hB
  rw [ht] at hP1
  rw [hw]
  exact kk H1 locs1 hP1 (hD1.weaken (fun _ q _ h => hF q.1 h)) hS1
end ZW
theorem gt_V {own C : String} {idx : Nat} {y : MethodName} {b : ByteArray} {n : Nat} {r : Option FieldType} (h1 : Cond.methodLink own idx y ∈ gt) (h2 : Cond.instanceMethod y ∈ gt) (h3 : Cond.selects C y y ∈ gt) (h4 : Cond.initialized C ∈ gt) (h5 : Cond.code y b n r ∈ gt) : GoodIn gt (wsV own idx C y (Cond.code y b n r :: gt)) := by
  intro w hw
  unfold wsV at hw
  rcases List.mem_append.mp hw with h | h
  · simp only [List.mem_cons, List.not_mem_nil, or_false] at h
    rcases h with rfl | rfl | rfl | rfl
    · exact gt_good _ h1
    · exact gt_good _ h2
    · exact gt_good _ h3
    · exact gt_good _ h4
  · rcases List.mem_cons.mp h with rfl | h
    · exact gt_good _ h5
    · exact gt_good _ h
theorem gt_S {own : String} {idx : Nat} {y : MethodName} {b : ByteArray} {n : Nat} {r : Option FieldType} (h1 : Cond.methodLink own idx y ∈ gt) (h2 : Cond.static y ∈ gt) (h4 : Cond.initialized own ∈ gt) (h5 : Cond.code y b n r ∈ gt) : GoodIn gt (wsS own idx y (Cond.code y b n r :: gt)) := by
  intro w hw
  unfold wsS at hw
  rcases List.mem_append.mp hw with h | h
  · simp only [List.mem_cons, List.not_mem_nil, or_false] at h
    rcases h with rfl | rfl | rfl
    · exact gt_good _ h1
    · exact gt_good _ h2
    · exact gt_good _ h4
  · rcases List.mem_cons.mp h with rfl | h
    · exact gt_good _ h5
    · exact gt_good _ h
end
section
/-! The class's world: 149 cells. 0 PageLayout, 1 Text, 2 Sheet, 3 Lines, 4 Ruler, 5 Pages, 6 Text.paragraph, 7 kind, 8 width, 9 height, 10 Lines.told, 11 Lines.place, 12 Pages.told, 13..22 told's rows, 23..25 place's rows, 26..28 pages' rows, and of paragraph i: 29 + 4i itself, 30 + 4i shape, 31 + 4i stopPlace, 32 + 4i stopKind. A cell's numbers are its row: fields by their slots, elements by their places. -/
abbrev pg_C : Type := ClassId × ClassId × ClassId
def pg_tys (cs : pg_C) : List (ClassId × FieldType) := [(cs.1, .int), (cs.2.1, .array .int), (cs.2.2, .object "PageLayout$Paragraph")]
def pg_ia (cs : pg_C) (n : Nat) (r : Nat → Int) : va_E := .inl (cs.1, n, .inl (fun j => iI (r j)))
def pg_p (ad : Nat → Nat) (cs : pg_C) (k : Nat) (r : Nat → Int) : va_E :=
  if k % 4 = 0 then .inr (6, [.ref (ad (k + 30)), .ref (ad (k + 31)), .ref (ad (k + 32)), .int (iI (r 3)), .int (iI (r 4)), .int (iI (r 5))])
  else if k % 4 = 1 then pg_ia cs 11 r else pg_ia cs 8 r
def pg_ce (ad : Nat → Nat) (cs : pg_C) (rp : Option Nat) (k : Nat) (r : Nat → Int) : va_E := match k with
  | 0 => .inr (0, [.ref (ad 1), .ref (ad 2), .ref (ad 3), .ref (ad 5), .int (iI (r 4))])
  | 1 => .inr (1, [.ref (ad 6), .ref (ad 7), .ref (ad 8), .ref (ad 9), .int (iI (r 4)), .int (iI (r 5))])
  | 2 => .inr (2, [.int (iI (r 0)), .int (iI (r 1)), .int (iI (r 2))])
  | 3 => .inr (3, [.ref (ad 10), .ref (ad 11), .int (iI (r 2)), .ref (ad 1), .ref (ad 2), .ref (ad 4)])
  | 4 => .inr (4, [.ref (ad 1), .ref (ad 2), va_rf (rp.map fun i => ad (29 + 4 * i)), .int (iI (r 3)), .int (iI (r 4)), .int (iI (r 5)), .int (iI (r 6))])
  | 5 => .inr (5, [.ref (ad 12), .int (iI (r 1)), .ref (ad 1), .ref (ad 2), .ref (ad 3)])
  | 6 => .inl (cs.2.2, 30, .inr (.inr (.inr (.inr (fun i => some (ad (29 + 4 * i)))))))
  | 7 => pg_ia cs 600 r
  | 8 => pg_ia cs 600 r
  | 9 => pg_ia cs 600 r
  | 10 => .inl (cs.2.1, 10, .inr (.inr (.inr (.inr (fun i => some (ad (13 + i)))))))
  | 11 => .inl (cs.2.1, 3, .inr (.inr (.inr (.inr (fun i => some (ad (23 + i)))))))
  | 12 => .inl (cs.2.1, 3, .inr (.inr (.inr (.inr (fun i => some (ad (26 + i)))))))
  | 13 => pg_ia cs 630 r
  | 14 => pg_ia cs 630 r
  | 15 => pg_ia cs 630 r
  | 16 => pg_ia cs 630 r
  | 17 => pg_ia cs 630 r
  | 18 => pg_ia cs 630 r
  | 19 => pg_ia cs 630 r
  | 20 => pg_ia cs 630 r
  | 21 => pg_ia cs 630 r
  | 22 => pg_ia cs 630 r
  | 23 => pg_ia cs 600 r
  | 24 => pg_ia cs 600 r
  | 25 => pg_ia cs 600 r
  | 26 => pg_ia cs 630 r
  | 27 => pg_ia cs 630 r
  | 28 => pg_ia cs 630 r
  | k + 29 => pg_p ad cs k r
def pg_w (ad : Nat → Nat) (cs : pg_C) (rp : Option Nat) (M : Nat → Nat → Int) : va_W := wlN 149 ad (pg_ce ad cs rp) M
theorem pg_far (ad : Nat → Nat) (cs : pg_C) (rp : Option Nat) (k : Nat) (r : Nat → Int) : pg_ce ad cs rp (29 + k) r = pg_p ad cs k r := by
  rw [Nat.add_comm]
  rfl
theorem pg_par (ad : Nat → Nat) (cs : pg_C) (rp : Option Nat) (i : Nat) (r : Nat → Int) : pg_ce ad cs rp (29 + 4 * i) r = .inr (6, [.ref (ad (30 + 4 * i)), .ref (ad (31 + 4 * i)), .ref (ad (32 + 4 * i)), .int (iI (r 3)), .int (iI (r 4)), .int (iI (r 5))]) := by
  rw [pg_far]
  unfold pg_p
  rw [if_pos (by omega), Nat.add_comm (4 * i) 30, Nat.add_comm (4 * i) 31, Nat.add_comm (4 * i) 32]
theorem pg_shp (ad : Nat → Nat) (cs : pg_C) (rp : Option Nat) (i : Nat) (r : Nat → Int) : pg_ce ad cs rp (30 + 4 * i) r = .inl (cs.1, 11, .inl (fun j => iI (r j))) := by
  rw [show 30 + 4 * i = 29 + (4 * i + 1) by omega, pg_far]
  unfold pg_p
  rw [if_neg (by omega), if_pos (by omega)]
  rfl
theorem pg_plc (ad : Nat → Nat) (cs : pg_C) (rp : Option Nat) (i : Nat) (r : Nat → Int) : pg_ce ad cs rp (31 + 4 * i) r = .inl (cs.1, 8, .inl (fun j => iI (r j))) := by
  rw [show 31 + 4 * i = 29 + (4 * i + 2) by omega, pg_far]
  unfold pg_p
  rw [if_neg (by omega), if_neg (by omega)]
  rfl
theorem pg_knd (ad : Nat → Nat) (cs : pg_C) (rp : Option Nat) (i : Nat) (r : Nat → Int) : pg_ce ad cs rp (32 + 4 * i) r = .inl (cs.1, 8, .inl (fun j => iI (r j))) := by
  rw [show 32 + 4 * i = 29 + (4 * i + 3) by omega, pg_far]
  unfold pg_p
  rw [if_neg (by omega), if_neg (by omega)]
  rfl
theorem pg_tld (ad : Nat → Nat) (cs : pg_C) (rp : Option Nat) {i : Nat} (h : i < 10) (r : Nat → Int) : pg_ce ad cs rp (13 + i) r = .inl (cs.1, 630, .inl (fun j => iI (r j))) := by
  match i, h with
  | 0, _ => rfl
  | 1, _ => rfl
  | 2, _ => rfl
  | 3, _ => rfl
  | 4, _ => rfl
  | 5, _ => rfl
  | 6, _ => rfl
  | 7, _ => rfl
  | 8, _ => rfl
  | 9, _ => rfl
theorem pg_plx (ad : Nat → Nat) (cs : pg_C) (rp : Option Nat) {i : Nat} (h : i < 3) (r : Nat → Int) : pg_ce ad cs rp (23 + i) r = .inl (cs.1, 600, .inl (fun j => iI (r j))) := by
  match i, h with
  | 0, _ => rfl
  | 1, _ => rfl
  | 2, _ => rfl
theorem pg_ptd (ad : Nat → Nat) (cs : pg_C) (rp : Option Nat) {i : Nat} (h : i < 3) (r : Nat → Int) : pg_ce ad cs rp (26 + i) r = .inl (cs.1, 630, .inl (fun j => iI (r j))) := by
  match i, h with
  | 0, _ => rfl
  | 1, _ => rfl
  | 2, _ => rfl
end
section
/-! The class's methods as functions over integers (my own words for what its code computes). -/
def p_step (f st : Int) : Int := if 0 < st then (f.tdiv st + 1) * st else f
def p_own (sp : Nat → Int) (p : Int) : Nat → Nat → Nat
  | 0, o => o
  | f + 1, o => if sp o ≤ p then p_own sp p f (o + 1) else o
def p_last (n : Nat) (sp : Nat → Int) : Int := if 0 < n then sp (n - 1) else 0
def p_at (n : Nat) (sp : Nat → Int) (p st : Int) : Int := if p_own sp p n 0 < n then sp (p_own sp p n 0) else p_step (max p (p_last n sp)) st
def p_knd (n : Nat) (sp sk : Nat → Int) (p : Int) : Int := if p_own sp p n 0 < n then sk (p_own sp p n 0) else 0
def p_tab (n : Nat) (sp sk : Nat → Int) (p w st : Int) : Int :=
  max 0 (if p_knd n sp sk p = 1 then p_at n sp p st - p - w else if p_knd n sp sk p = 2 then p_at n sp p st - p - w.tdiv 2 else p_at n sp p st - p)
abbrev p_endl (kd : Nat → Int) (i : Nat) : Prop := kd i = 5 ∨ kd i = 6
abbrev p_brk (kd : Nat → Int) (beh i : Nat) : Prop := beh ≤ i + 1 ∨ kd (i + 1) = 2 ∨ kd i = 1 ∨ kd i = 3 ∨ kd i = 4 ∨ p_endl kd i
def p_wid (kd wd : Nat → Int) (i : Nat) (last : Bool) : Int := if kd i = 5 ∨ kd i = 6 ∨ (kd i = 4 ∧ last = false) then 0 else wd i
def p_back (kd : Nat → Int) (a : Nat) : Nat → Nat
  | 0 => 0
  | s + 1 => if a < s + 1 ∧ kd s = 1 then p_back kd a s else s + 1
def p_solid (kd : Nat → Int) (a b : Nat) : Nat := p_back kd a (if a < b ∧ p_endl kd (b - 1) then b - 1 else b)
theorem p_own_ge (sp : Nat → Int) (p : Int) : ∀ f o, o ≤ p_own sp p f o := by
  intro f
  induction f with
  | zero => intro o; exact Nat.le_refl o
  | succ f ih =>
    intro o
    unfold p_own
    split
    · exact Nat.le_trans (Nat.le_succ o) (ih (o + 1))
    · exact Nat.le_refl o
theorem p_own_le (sp : Nat → Int) (p : Int) : ∀ f o, p_own sp p f o ≤ o + f := by
  intro f
  induction f with
  | zero => intro o; exact Nat.le_refl o
  | succ f ih =>
    intro o
    unfold p_own
    split
    · have := ih (o + 1); omega
    · omega
theorem p_own_lt (sp : Nat → Int) (p : Int) : ∀ f o j, o ≤ j → j < p_own sp p f o → sp j ≤ p := by
  intro f
  induction f with
  | zero => intro o j h1 h2; unfold p_own at h2; omega
  | succ f ih =>
    intro o j h1 h2
    unfold p_own at h2
    split at h2
    · rename_i hs
      by_cases hj : j = o
      · subst hj; exact hs
      · exact ih (o + 1) j (by omega) h2
    · omega
theorem p_own_at (sp : Nat → Int) (p : Int) : ∀ f o, p_own sp p f o < o + f → p < sp (p_own sp p f o) := by
  intro f
  induction f with
  | zero => intro o h; unfold p_own at h; omega
  | succ f ih =>
    intro o h
    unfold p_own at h ⊢
    split
    · rename_i hs
      rw [if_pos hs] at h
      exact ih (o + 1) (by omega)
    · rename_i hs
      omega
theorem p_back_le (kd : Nat → Int) (a : Nat) : ∀ s, p_back kd a s ≤ s := by
  intro s
  induction s with
  | zero => exact Nat.le_refl 0
  | succ s ih =>
    unfold p_back
    split
    · omega
    · exact Nat.le_refl _
theorem p_back_ge (kd : Nat → Int) (a : Nat) : ∀ s, a ≤ s → a ≤ p_back kd a s := by
  intro s
  induction s with
  | zero => intro h; exact h
  | succ s ih =>
    intro h
    unfold p_back
    split
    · exact ih (by omega)
    · exact h
theorem p_solid_le (kd : Nat → Int) (a b : Nat) : p_solid kd a b ≤ b := by
  unfold p_solid
  have h := p_back_le kd a (if a < b ∧ p_endl kd (b - 1) then b - 1 else b)
  split at h <;> rename_i q
  · rw [if_pos q]; omega
  · rw [if_neg q]; exact h
theorem p_solid_ge (kd : Nat → Int) (a b : Nat) (hab : a ≤ b) : a ≤ p_solid kd a b := by
  unfold p_solid
  apply p_back_ge
  split
  · omega
  · exact hab
/-- a line that grows: whether there is a TAB, where its stretch begins, all widths behind, the solid ones -/
abbrev p_R : Type := Int × Int × Int × Int
/-- a paragraph's stops and the step, as a tab sees them -/
abbrev p_T : Type := Nat × (Nat → Int) × (Nat → Int) × Int
def p_ew (t : p_T) (r : p_R) (w : Int) : Int := r.2.1 + (if r.1 = 0 then 0 else p_tab t.1 t.2.1 t.2.2.1 r.2.1 w t.2.2.2) + w
def p_add (kd wd : Nat → Int) (t : p_T) (r : p_R) (i : Nat) : p_R :=
  if kd i = 2 then (1, p_ew t r r.2.2.1, 0, 0)
  else (r.1, r.2.1, r.2.2.1 + p_wid kd wd i false, if kd i ≠ 1 ∧ ¬ p_endl kd i then r.2.2.1 + p_wid kd wd i false else r.2.2.2)
def p_least (t : p_T) (r : p_R) : Int := p_ew t r r.2.2.2
def p_endb (kd wd : Nat → Int) (t : p_T) (r : p_R) (i : Nat) : Int := if kd i = 4 then p_ew t r (r.2.2.1 + wd i) else p_least t r
def p_wbt (kd wd : Nat → Int) (solid beh : Nat) : Nat → Nat → Int → Int
  | 0, _, s => s
  | f + 1, i, s => if i < solid ∧ kd i ≠ 2 then p_wbt kd wd solid beh f (i + 1) (s + p_wid kd wd i (decide (i + 1 = beh))) else s
def p_hgt (ht : Nat → Int) (b : Nat) : Nat → Nat → Int → Int
  | 0, _, h => h
  | f + 1, i, h => if i < b then p_hgt ht b f (i + 1) (max h (ht i)) else h
theorem p_stepb {f st : Int} (hf : 0 ≤ f) (h1 : 1 ≤ st) : f < p_step f st ∧ p_step f st ≤ f + st := by
  unfold p_step
  rw [if_pos (by omega), Int.tdiv_eq_ediv_of_nonneg hf]
  have h2 := Int.emod_def f st
  have h3 := Int.emod_nonneg f (show st ≠ 0 by omega)
  have h4 := Int.emod_lt_of_pos f (show 0 < st by omega)
  have h5 : (f / st + 1) * st = st * (f / st) + st := by rw [Int.add_mul, Int.one_mul, Int.mul_comm]
  rw [h5]
  constructor <;> omega
/-- what the ruler and a paragraph's stops are in the memory -/
def p_rul (M : Nat → Nat → Int) : p_R := (M 4 3, M 4 4, M 4 5, M 4 6)
def p_tabs (M : Nat → Nat → Int) (i n : Nat) : p_T := (n, M (31 + 4 * i), M (32 + 4 * i), M 2 2)
/-- a paragraph's stops are sound -/
def wfP (M : Nat → Nat → Int) (i n : Nat) : Prop := i < 30 ∧ n ≤ 8 ∧ M (29 + 4 * i) 3 = ((n : Nat) : Int) ∧ (∀ j, 0 ≤ M (31 + 4 * i) j ∧ M (31 + 4 * i) j ≤ 30000) ∧ (∀ j, 0 ≤ M (32 + 4 * i) j ∧ M (32 + 4 * i) j ≤ 2)
/-- signs and sheet are sound -/
def wfT (M : Nat → Nat → Int) : Prop := (∀ j, 0 ≤ M 7 j ∧ M 7 j ≤ 6) ∧ (∀ j, 0 ≤ M 8 j ∧ M 8 j ≤ 4000) ∧ (∀ j, 0 ≤ M 9 j ∧ M 9 j ≤ 2000) ∧ (1 ≤ M 2 0 ∧ M 2 0 ≤ 30000) ∧ (1 ≤ M 2 1 ∧ M 2 1 ≤ 30000) ∧ (1 ≤ M 2 2 ∧ M 2 2 ≤ 30000)
def wfR (M : Nat → Nat → Int) : Prop := (M 4 3 = 0 ∨ M 4 3 = 1) ∧ (0 ≤ M 4 4 ∧ M 4 4 ≤ 40000000) ∧ (0 ≤ M 4 5 ∧ M 4 5 ≤ 40000000) ∧ (0 ≤ M 4 6 ∧ M 4 6 ≤ 40000000)
theorem zb_7 {M : Nat → Nat → Int} (h : wfT M) : ∀ j, zb (M 7 j) := fun j => ⟨by have := h.1 j; omega, by have := h.1 j; omega⟩
def p_blt (kd : Nat → Int) (a : Nat) : Nat → Nat
  | 0 => 0
  | s + 1 => if a < s + 1 ∧ ¬ kd s = 2 then p_blt kd a s else s + 1
abbrev p_first (pa : Nat → Int) (w : Nat) : Prop := w = 0 ∨ ¬ pa (w - 1) = pa w
abbrev p_lastl (pa : Nat → Int) (nl w : Nat) : Prop := nl ≤ w + 1 ∨ ¬ pa (w + 1) = pa w
abbrev p_endp (kd : Nat → Int) (f c : Nat) : Prop := 0 < c ∧ kd (f + c - 1) = 6
def p_ah (kd pf pw : Nat → Int) (x : Int) : Nat → Nat → Nat
  | 0, i => i
  | f + 1, i => if x < pf i + (pw i).tdiv 2 ∨ p_endl kd i then i else p_ah kd pf pw x f (i + 1)
def p_lat (dn : Nat → Int) (y : Int) (a : Nat) : Nat → Nat
  | 0 => 0
  | s + 1 => if a < s + 1 ∧ y < dn (s + 1) then p_lat dn y a s else s + 1
end
section
theorem d_TX_solidBehind_0 : decode b_TX_solidBehind 0 = .ok (.iload_n 2, 1) := by decide +kernel
theorem d_TX_solidBehind_1 : decode b_TX_solidBehind 1 = .ok (.istore_n 3, 1) := by decide +kernel
theorem d_TX_solidBehind_2 : decode b_TX_solidBehind 2 = .ok (.iload_n 3, 1) := by decide +kernel
theorem d_TX_solidBehind_3 : decode b_TX_solidBehind 3 = .ok (.iload_n 1, 1) := by decide +kernel
theorem d_TX_solidBehind_4 : decode b_TX_solidBehind 4 = .ok (.if_icmp .le 16, 3) := by decide +kernel
theorem d_TX_solidBehind_7 : decode b_TX_solidBehind 7 = .ok (.aload_n 0, 1) := by decide +kernel
theorem d_TX_solidBehind_8 : decode b_TX_solidBehind 8 = .ok (.iload_n 3, 1) := by decide +kernel
theorem d_TX_solidBehind_9 : decode b_TX_solidBehind 9 = .ok (.iconst 1, 1) := by decide +kernel
theorem d_TX_solidBehind_10 : decode b_TX_solidBehind 10 = .ok (.isub, 1) := by decide +kernel
theorem d_TX_solidBehind_11 : decode b_TX_solidBehind 11 = .ok (.invokevirtual 42, 3) := by decide +kernel
theorem d_TX_solidBehind_14 : decode b_TX_solidBehind 14 = .ok (.ifCond .eq 6, 3) := by decide +kernel
theorem d_TX_solidBehind_17 : decode b_TX_solidBehind 17 = .ok (.iinc 3 (-1), 3) := by decide +kernel
theorem d_TX_solidBehind_20 : decode b_TX_solidBehind 20 = .ok (.iload_n 3, 1) := by decide +kernel
theorem d_TX_solidBehind_21 : decode b_TX_solidBehind 21 = .ok (.iload_n 1, 1) := by decide +kernel
theorem d_TX_solidBehind_22 : decode b_TX_solidBehind 22 = .ok (.if_icmp .le 21, 3) := by decide +kernel
theorem d_TX_solidBehind_25 : decode b_TX_solidBehind 25 = .ok (.aload_n 0, 1) := by decide +kernel
theorem d_TX_solidBehind_26 : decode b_TX_solidBehind 26 = .ok (.getfield 17, 3) := by decide +kernel
theorem d_TX_solidBehind_29 : decode b_TX_solidBehind 29 = .ok (.iload_n 3, 1) := by decide +kernel
theorem d_TX_solidBehind_30 : decode b_TX_solidBehind 30 = .ok (.iconst 1, 1) := by decide +kernel
theorem d_TX_solidBehind_31 : decode b_TX_solidBehind 31 = .ok (.isub, 1) := by decide +kernel
theorem d_TX_solidBehind_32 : decode b_TX_solidBehind 32 = .ok (.iaload, 1) := by decide +kernel
theorem d_TX_solidBehind_33 : decode b_TX_solidBehind 33 = .ok (.iconst 1, 1) := by decide +kernel
theorem d_TX_solidBehind_34 : decode b_TX_solidBehind 34 = .ok (.if_icmp .ne 9, 3) := by decide +kernel
theorem d_TX_solidBehind_37 : decode b_TX_solidBehind 37 = .ok (.iinc 3 (-1), 3) := by decide +kernel
theorem d_TX_solidBehind_40 : decode b_TX_solidBehind 40 = .ok (.goto (-20), 3) := by decide +kernel
theorem d_TX_solidBehind_43 : decode b_TX_solidBehind 43 = .ok (.iload_n 3, 1) := by decide +kernel
theorem d_TX_solidBehind_44 : decode b_TX_solidBehind 44 = .ok (.ireturn, 1) := by decide +kernel
theorem d_TX_endsLine_0 : decode b_TX_endsLine 0 = .ok (.aload_n 0, 1) := by decide +kernel
theorem d_TX_endsLine_1 : decode b_TX_endsLine 1 = .ok (.getfield 17, 3) := by decide +kernel
theorem d_TX_endsLine_4 : decode b_TX_endsLine 4 = .ok (.iload_n 1, 1) := by decide +kernel
theorem d_TX_endsLine_5 : decode b_TX_endsLine 5 = .ok (.iaload, 1) := by decide +kernel
theorem d_TX_endsLine_6 : decode b_TX_endsLine 6 = .ok (.iconst 5, 1) := by decide +kernel
theorem d_TX_endsLine_7 : decode b_TX_endsLine 7 = .ok (.if_icmp .eq 14, 3) := by decide +kernel
theorem d_TX_endsLine_10 : decode b_TX_endsLine 10 = .ok (.aload_n 0, 1) := by decide +kernel
theorem d_TX_endsLine_11 : decode b_TX_endsLine 11 = .ok (.getfield 17, 3) := by decide +kernel
theorem d_TX_endsLine_14 : decode b_TX_endsLine 14 = .ok (.iload_n 1, 1) := by decide +kernel
theorem d_TX_endsLine_15 : decode b_TX_endsLine 15 = .ok (.iaload, 1) := by decide +kernel
theorem d_TX_endsLine_16 : decode b_TX_endsLine 16 = .ok (.bipush 6, 2) := by decide +kernel
theorem d_TX_endsLine_18 : decode b_TX_endsLine 18 = .ok (.if_icmp .ne 7, 3) := by decide +kernel
theorem d_TX_endsLine_21 : decode b_TX_endsLine 21 = .ok (.iconst 1, 1) := by decide +kernel
theorem d_TX_endsLine_22 : decode b_TX_endsLine 22 = .ok (.goto 4, 3) := by decide +kernel
theorem d_TX_endsLine_25 : decode b_TX_endsLine 25 = .ok (.iconst 0, 1) := by decide +kernel
theorem d_TX_endsLine_26 : decode b_TX_endsLine 26 = .ok (.ireturn, 1) := by decide +kernel
theorem d_TX_widthWithin_0 : decode b_TX_widthWithin 0 = .ok (.aload_n 0, 1) := by decide +kernel
theorem d_TX_widthWithin_1 : decode b_TX_widthWithin 1 = .ok (.iload_n 1, 1) := by decide +kernel
theorem d_TX_widthWithin_2 : decode b_TX_widthWithin 2 = .ok (.invokevirtual 42, 3) := by decide +kernel
theorem d_TX_widthWithin_5 : decode b_TX_widthWithin 5 = .ok (.ifCond .ne 17, 3) := by decide +kernel
theorem d_TX_widthWithin_8 : decode b_TX_widthWithin 8 = .ok (.aload_n 0, 1) := by decide +kernel
theorem d_TX_widthWithin_9 : decode b_TX_widthWithin 9 = .ok (.getfield 17, 3) := by decide +kernel
theorem d_TX_widthWithin_12 : decode b_TX_widthWithin 12 = .ok (.iload_n 1, 1) := by decide +kernel
theorem d_TX_widthWithin_13 : decode b_TX_widthWithin 13 = .ok (.iaload, 1) := by decide +kernel
theorem d_TX_widthWithin_14 : decode b_TX_widthWithin 14 = .ok (.iconst 4, 1) := by decide +kernel
theorem d_TX_widthWithin_15 : decode b_TX_widthWithin 15 = .ok (.if_icmp .ne 9, 3) := by decide +kernel
theorem d_TX_widthWithin_18 : decode b_TX_widthWithin 18 = .ok (.iload_n 2, 1) := by decide +kernel
theorem d_TX_widthWithin_19 : decode b_TX_widthWithin 19 = .ok (.ifCond .ne 5, 3) := by decide +kernel
theorem d_TX_widthWithin_22 : decode b_TX_widthWithin 22 = .ok (.iconst 0, 1) := by decide +kernel
theorem d_TX_widthWithin_23 : decode b_TX_widthWithin 23 = .ok (.ireturn, 1) := by decide +kernel
theorem d_TX_widthWithin_24 : decode b_TX_widthWithin 24 = .ok (.aload_n 0, 1) := by decide +kernel
theorem d_TX_widthWithin_25 : decode b_TX_widthWithin 25 = .ok (.getfield 21, 3) := by decide +kernel
theorem d_TX_widthWithin_28 : decode b_TX_widthWithin 28 = .ok (.iload_n 1, 1) := by decide +kernel
theorem d_TX_widthWithin_29 : decode b_TX_widthWithin 29 = .ok (.iaload, 1) := by decide +kernel
theorem d_TX_widthWithin_30 : decode b_TX_widthWithin 30 = .ok (.ireturn, 1) := by decide +kernel
theorem d_PA_tabWidth_0 : decode b_PA_tabWidth 0 = .ok (.aload_n 0, 1) := by decide +kernel
theorem d_PA_tabWidth_1 : decode b_PA_tabWidth 1 = .ok (.iload_n 1, 1) := by decide +kernel
theorem d_PA_tabWidth_2 : decode b_PA_tabWidth 2 = .ok (.invokevirtual 37, 3) := by decide +kernel
theorem d_PA_tabWidth_5 : decode b_PA_tabWidth 5 = .ok (.istore 4, 2) := by decide +kernel
theorem d_PA_tabWidth_7 : decode b_PA_tabWidth 7 = .ok (.iload 4, 2) := by decide +kernel
theorem d_PA_tabWidth_9 : decode b_PA_tabWidth 9 = .ok (.aload_n 0, 1) := by decide +kernel
theorem d_PA_tabWidth_10 : decode b_PA_tabWidth 10 = .ok (.getfield 27, 3) := by decide +kernel
theorem d_PA_tabWidth_13 : decode b_PA_tabWidth 13 = .ok (.if_icmp .ge 13, 3) := by decide +kernel
theorem d_PA_tabWidth_16 : decode b_PA_tabWidth 16 = .ok (.aload_n 0, 1) := by decide +kernel
theorem d_PA_tabWidth_17 : decode b_PA_tabWidth 17 = .ok (.getfield 15, 3) := by decide +kernel
theorem d_PA_tabWidth_20 : decode b_PA_tabWidth 20 = .ok (.iload 4, 2) := by decide +kernel
theorem d_PA_tabWidth_22 : decode b_PA_tabWidth 22 = .ok (.iaload, 1) := by decide +kernel
theorem d_PA_tabWidth_23 : decode b_PA_tabWidth 23 = .ok (.goto 15, 3) := by decide +kernel
theorem d_PA_tabWidth_26 : decode b_PA_tabWidth 26 = .ok (.iload_n 1, 1) := by decide +kernel
theorem d_PA_tabWidth_27 : decode b_PA_tabWidth 27 = .ok (.aload_n 0, 1) := by decide +kernel
theorem d_PA_tabWidth_28 : decode b_PA_tabWidth 28 = .ok (.invokevirtual 41, 3) := by decide +kernel
theorem d_PA_tabWidth_31 : decode b_PA_tabWidth 31 = .ok (.invokestatic 45, 3) := by decide +kernel
theorem d_PA_tabWidth_34 : decode b_PA_tabWidth 34 = .ok (.iload_n 3, 1) := by decide +kernel
theorem d_PA_tabWidth_35 : decode b_PA_tabWidth 35 = .ok (.invokestatic 51, 3) := by decide +kernel
theorem d_PA_tabWidth_38 : decode b_PA_tabWidth 38 = .ok (.istore 5, 2) := by decide +kernel
theorem d_PA_tabWidth_40 : decode b_PA_tabWidth 40 = .ok (.iload 4, 2) := by decide +kernel
theorem d_PA_tabWidth_42 : decode b_PA_tabWidth 42 = .ok (.aload_n 0, 1) := by decide +kernel
theorem d_PA_tabWidth_43 : decode b_PA_tabWidth 43 = .ok (.getfield 27, 3) := by decide +kernel
theorem d_PA_tabWidth_46 : decode b_PA_tabWidth 46 = .ok (.if_icmp .ge 13, 3) := by decide +kernel
theorem d_PA_tabWidth_49 : decode b_PA_tabWidth 49 = .ok (.aload_n 0, 1) := by decide +kernel
theorem d_PA_tabWidth_50 : decode b_PA_tabWidth 50 = .ok (.getfield 18, 3) := by decide +kernel
theorem d_PA_tabWidth_53 : decode b_PA_tabWidth 53 = .ok (.iload 4, 2) := by decide +kernel
theorem d_PA_tabWidth_55 : decode b_PA_tabWidth 55 = .ok (.iaload, 1) := by decide +kernel
theorem d_PA_tabWidth_56 : decode b_PA_tabWidth 56 = .ok (.goto 4, 3) := by decide +kernel
theorem d_PA_tabWidth_59 : decode b_PA_tabWidth 59 = .ok (.iconst 0, 1) := by decide +kernel
theorem d_PA_tabWidth_60 : decode b_PA_tabWidth 60 = .ok (.istore 6, 2) := by decide +kernel
theorem d_PA_tabWidth_62 : decode b_PA_tabWidth 62 = .ok (.iload 5, 2) := by decide +kernel
theorem d_PA_tabWidth_64 : decode b_PA_tabWidth 64 = .ok (.iload_n 1, 1) := by decide +kernel
theorem d_PA_tabWidth_65 : decode b_PA_tabWidth 65 = .ok (.isub, 1) := by decide +kernel
theorem d_PA_tabWidth_66 : decode b_PA_tabWidth 66 = .ok (.istore 7, 2) := by decide +kernel
theorem d_PA_tabWidth_68 : decode b_PA_tabWidth 68 = .ok (.iload 6, 2) := by decide +kernel
theorem d_PA_tabWidth_70 : decode b_PA_tabWidth 70 = .ok (.iconst 1, 1) := by decide +kernel
theorem d_PA_tabWidth_71 : decode b_PA_tabWidth 71 = .ok (.if_icmp .ne 12, 3) := by decide +kernel
theorem d_PA_tabWidth_74 : decode b_PA_tabWidth 74 = .ok (.iload 7, 2) := by decide +kernel
theorem d_PA_tabWidth_76 : decode b_PA_tabWidth 76 = .ok (.iload_n 2, 1) := by decide +kernel
theorem d_PA_tabWidth_77 : decode b_PA_tabWidth 77 = .ok (.isub, 1) := by decide +kernel
theorem d_PA_tabWidth_78 : decode b_PA_tabWidth 78 = .ok (.istore 7, 2) := by decide +kernel
theorem d_PA_tabWidth_80 : decode b_PA_tabWidth 80 = .ok (.goto 17, 3) := by decide +kernel
theorem d_PA_tabWidth_83 : decode b_PA_tabWidth 83 = .ok (.iload 6, 2) := by decide +kernel
theorem d_PA_tabWidth_85 : decode b_PA_tabWidth 85 = .ok (.iconst 2, 1) := by decide +kernel
theorem d_PA_tabWidth_86 : decode b_PA_tabWidth 86 = .ok (.if_icmp .ne 11, 3) := by decide +kernel
theorem d_PA_tabWidth_89 : decode b_PA_tabWidth 89 = .ok (.iload 7, 2) := by decide +kernel
theorem d_PA_tabWidth_91 : decode b_PA_tabWidth 91 = .ok (.iload_n 2, 1) := by decide +kernel
theorem d_PA_tabWidth_92 : decode b_PA_tabWidth 92 = .ok (.iconst 2, 1) := by decide +kernel
theorem d_PA_tabWidth_93 : decode b_PA_tabWidth 93 = .ok (.idiv, 1) := by decide +kernel
theorem d_PA_tabWidth_94 : decode b_PA_tabWidth 94 = .ok (.isub, 1) := by decide +kernel
theorem d_PA_tabWidth_95 : decode b_PA_tabWidth 95 = .ok (.istore 7, 2) := by decide +kernel
theorem d_PA_tabWidth_97 : decode b_PA_tabWidth 97 = .ok (.iconst 0, 1) := by decide +kernel
theorem d_PA_tabWidth_98 : decode b_PA_tabWidth 98 = .ok (.iload 7, 2) := by decide +kernel
theorem d_PA_tabWidth_100 : decode b_PA_tabWidth 100 = .ok (.invokestatic 45, 3) := by decide +kernel
theorem d_PA_tabWidth_103 : decode b_PA_tabWidth 103 = .ok (.ireturn, 1) := by decide +kernel
theorem d_PA_ownStopAbove_0 : decode b_PA_ownStopAbove 0 = .ok (.iconst 0, 1) := by decide +kernel
theorem d_PA_ownStopAbove_1 : decode b_PA_ownStopAbove 1 = .ok (.istore_n 2, 1) := by decide +kernel
theorem d_PA_ownStopAbove_2 : decode b_PA_ownStopAbove 2 = .ok (.iload_n 2, 1) := by decide +kernel
theorem d_PA_ownStopAbove_3 : decode b_PA_ownStopAbove 3 = .ok (.aload_n 0, 1) := by decide +kernel
theorem d_PA_ownStopAbove_4 : decode b_PA_ownStopAbove 4 = .ok (.getfield 27, 3) := by decide +kernel
theorem d_PA_ownStopAbove_7 : decode b_PA_ownStopAbove 7 = .ok (.if_icmp .ge 19, 3) := by decide +kernel
theorem d_PA_ownStopAbove_10 : decode b_PA_ownStopAbove 10 = .ok (.aload_n 0, 1) := by decide +kernel
theorem d_PA_ownStopAbove_11 : decode b_PA_ownStopAbove 11 = .ok (.getfield 15, 3) := by decide +kernel
theorem d_PA_ownStopAbove_14 : decode b_PA_ownStopAbove 14 = .ok (.iload_n 2, 1) := by decide +kernel
theorem d_PA_ownStopAbove_15 : decode b_PA_ownStopAbove 15 = .ok (.iaload, 1) := by decide +kernel
theorem d_PA_ownStopAbove_16 : decode b_PA_ownStopAbove 16 = .ok (.iload_n 1, 1) := by decide +kernel
theorem d_PA_ownStopAbove_17 : decode b_PA_ownStopAbove 17 = .ok (.if_icmp .gt 9, 3) := by decide +kernel
theorem d_PA_ownStopAbove_20 : decode b_PA_ownStopAbove 20 = .ok (.iinc 2 1, 3) := by decide +kernel
theorem d_PA_ownStopAbove_23 : decode b_PA_ownStopAbove 23 = .ok (.goto (-21), 3) := by decide +kernel
theorem d_PA_ownStopAbove_26 : decode b_PA_ownStopAbove 26 = .ok (.iload_n 2, 1) := by decide +kernel
theorem d_PA_ownStopAbove_27 : decode b_PA_ownStopAbove 27 = .ok (.ireturn, 1) := by decide +kernel
theorem d_PA_lastStop_0 : decode b_PA_lastStop 0 = .ok (.aload_n 0, 1) := by decide +kernel
theorem d_PA_lastStop_1 : decode b_PA_lastStop 1 = .ok (.getfield 27, 3) := by decide +kernel
theorem d_PA_lastStop_4 : decode b_PA_lastStop 4 = .ok (.ifCond .le 17, 3) := by decide +kernel
theorem d_PA_lastStop_7 : decode b_PA_lastStop 7 = .ok (.aload_n 0, 1) := by decide +kernel
theorem d_PA_lastStop_8 : decode b_PA_lastStop 8 = .ok (.getfield 15, 3) := by decide +kernel
theorem d_PA_lastStop_11 : decode b_PA_lastStop 11 = .ok (.aload_n 0, 1) := by decide +kernel
theorem d_PA_lastStop_12 : decode b_PA_lastStop 12 = .ok (.getfield 27, 3) := by decide +kernel
theorem d_PA_lastStop_15 : decode b_PA_lastStop 15 = .ok (.iconst 1, 1) := by decide +kernel
theorem d_PA_lastStop_16 : decode b_PA_lastStop 16 = .ok (.isub, 1) := by decide +kernel
theorem d_PA_lastStop_17 : decode b_PA_lastStop 17 = .ok (.iaload, 1) := by decide +kernel
theorem d_PA_lastStop_18 : decode b_PA_lastStop 18 = .ok (.goto 4, 3) := by decide +kernel
theorem d_PA_lastStop_21 : decode b_PA_lastStop 21 = .ok (.iconst 0, 1) := by decide +kernel
theorem d_PA_lastStop_22 : decode b_PA_lastStop 22 = .ok (.ireturn, 1) := by decide +kernel
theorem d_PA_stepAbove_0 : decode b_PA_stepAbove 0 = .ok (.iload_n 1, 1) := by decide +kernel
theorem d_PA_stepAbove_1 : decode b_PA_stepAbove 1 = .ok (.ifCond .le 13, 3) := by decide +kernel
theorem d_PA_stepAbove_4 : decode b_PA_stepAbove 4 = .ok (.iload_n 0, 1) := by decide +kernel
theorem d_PA_stepAbove_5 : decode b_PA_stepAbove 5 = .ok (.iload_n 1, 1) := by decide +kernel
theorem d_PA_stepAbove_6 : decode b_PA_stepAbove 6 = .ok (.idiv, 1) := by decide +kernel
theorem d_PA_stepAbove_7 : decode b_PA_stepAbove 7 = .ok (.iconst 1, 1) := by decide +kernel
theorem d_PA_stepAbove_8 : decode b_PA_stepAbove 8 = .ok (.iadd, 1) := by decide +kernel
theorem d_PA_stepAbove_9 : decode b_PA_stepAbove 9 = .ok (.iload_n 1, 1) := by decide +kernel
theorem d_PA_stepAbove_10 : decode b_PA_stepAbove 10 = .ok (.imul, 1) := by decide +kernel
theorem d_PA_stepAbove_11 : decode b_PA_stepAbove 11 = .ok (.goto 4, 3) := by decide +kernel
theorem d_PA_stepAbove_14 : decode b_PA_stepAbove 14 = .ok (.iload_n 0, 1) := by decide +kernel
theorem d_PA_stepAbove_15 : decode b_PA_stepAbove 15 = .ok (.ireturn, 1) := by decide +kernel
theorem d_TX_isBreakBehind_0 : decode b_TX_isBreakBehind 0 = .ok (.iload_n 1, 1) := by decide +kernel
theorem d_TX_isBreakBehind_1 : decode b_TX_isBreakBehind 1 = .ok (.iconst 1, 1) := by decide +kernel
theorem d_TX_isBreakBehind_2 : decode b_TX_isBreakBehind 2 = .ok (.iadd, 1) := by decide +kernel
theorem d_TX_isBreakBehind_3 : decode b_TX_isBreakBehind 3 = .ok (.aload_n 2, 1) := by decide +kernel
theorem d_TX_isBreakBehind_4 : decode b_TX_isBreakBehind 4 = .ok (.getfield 39, 3) := by decide +kernel
theorem d_TX_isBreakBehind_7 : decode b_TX_isBreakBehind 7 = .ok (.if_icmp .ge 15, 3) := by decide +kernel
theorem d_TX_isBreakBehind_10 : decode b_TX_isBreakBehind 10 = .ok (.aload_n 0, 1) := by decide +kernel
theorem d_TX_isBreakBehind_11 : decode b_TX_isBreakBehind 11 = .ok (.getfield 17, 3) := by decide +kernel
theorem d_TX_isBreakBehind_14 : decode b_TX_isBreakBehind 14 = .ok (.iload_n 1, 1) := by decide +kernel
theorem d_TX_isBreakBehind_15 : decode b_TX_isBreakBehind 15 = .ok (.iconst 1, 1) := by decide +kernel
theorem d_TX_isBreakBehind_16 : decode b_TX_isBreakBehind 16 = .ok (.iadd, 1) := by decide +kernel
theorem d_TX_isBreakBehind_17 : decode b_TX_isBreakBehind 17 = .ok (.iaload, 1) := by decide +kernel
theorem d_TX_isBreakBehind_18 : decode b_TX_isBreakBehind 18 = .ok (.iconst 2, 1) := by decide +kernel
theorem d_TX_isBreakBehind_19 : decode b_TX_isBreakBehind 19 = .ok (.if_icmp .ne 5, 3) := by decide +kernel
theorem d_TX_isBreakBehind_22 : decode b_TX_isBreakBehind 22 = .ok (.iconst 1, 1) := by decide +kernel
theorem d_TX_isBreakBehind_23 : decode b_TX_isBreakBehind 23 = .ok (.ireturn, 1) := by decide +kernel
theorem d_TX_isBreakBehind_24 : decode b_TX_isBreakBehind 24 = .ok (.aload_n 0, 1) := by decide +kernel
theorem d_TX_isBreakBehind_25 : decode b_TX_isBreakBehind 25 = .ok (.getfield 17, 3) := by decide +kernel
theorem d_TX_isBreakBehind_28 : decode b_TX_isBreakBehind 28 = .ok (.iload_n 1, 1) := by decide +kernel
theorem d_TX_isBreakBehind_29 : decode b_TX_isBreakBehind 29 = .ok (.iaload, 1) := by decide +kernel
theorem d_TX_isBreakBehind_30 : decode b_TX_isBreakBehind 30 = .ok (.iconst 1, 1) := by decide +kernel
theorem d_TX_isBreakBehind_31 : decode b_TX_isBreakBehind 31 = .ok (.if_icmp .eq 31, 3) := by decide +kernel
theorem d_TX_isBreakBehind_34 : decode b_TX_isBreakBehind 34 = .ok (.aload_n 0, 1) := by decide +kernel
theorem d_TX_isBreakBehind_35 : decode b_TX_isBreakBehind 35 = .ok (.getfield 17, 3) := by decide +kernel
theorem d_TX_isBreakBehind_38 : decode b_TX_isBreakBehind 38 = .ok (.iload_n 1, 1) := by decide +kernel
theorem d_TX_isBreakBehind_39 : decode b_TX_isBreakBehind 39 = .ok (.iaload, 1) := by decide +kernel
theorem d_TX_isBreakBehind_40 : decode b_TX_isBreakBehind 40 = .ok (.iconst 3, 1) := by decide +kernel
theorem d_TX_isBreakBehind_41 : decode b_TX_isBreakBehind 41 = .ok (.if_icmp .eq 21, 3) := by decide +kernel
theorem d_TX_isBreakBehind_44 : decode b_TX_isBreakBehind 44 = .ok (.aload_n 0, 1) := by decide +kernel
theorem d_TX_isBreakBehind_45 : decode b_TX_isBreakBehind 45 = .ok (.getfield 17, 3) := by decide +kernel
theorem d_TX_isBreakBehind_48 : decode b_TX_isBreakBehind 48 = .ok (.iload_n 1, 1) := by decide +kernel
theorem d_TX_isBreakBehind_49 : decode b_TX_isBreakBehind 49 = .ok (.iaload, 1) := by decide +kernel
theorem d_TX_isBreakBehind_50 : decode b_TX_isBreakBehind 50 = .ok (.iconst 4, 1) := by decide +kernel
theorem d_TX_isBreakBehind_51 : decode b_TX_isBreakBehind 51 = .ok (.if_icmp .eq 11, 3) := by decide +kernel
theorem d_TX_isBreakBehind_54 : decode b_TX_isBreakBehind 54 = .ok (.aload_n 0, 1) := by decide +kernel
theorem d_TX_isBreakBehind_55 : decode b_TX_isBreakBehind 55 = .ok (.iload_n 1, 1) := by decide +kernel
theorem d_TX_isBreakBehind_56 : decode b_TX_isBreakBehind 56 = .ok (.invokevirtual 42, 3) := by decide +kernel
theorem d_TX_isBreakBehind_59 : decode b_TX_isBreakBehind 59 = .ok (.ifCond .eq 7, 3) := by decide +kernel
theorem d_TX_isBreakBehind_62 : decode b_TX_isBreakBehind 62 = .ok (.iconst 1, 1) := by decide +kernel
theorem d_TX_isBreakBehind_63 : decode b_TX_isBreakBehind 63 = .ok (.goto 4, 3) := by decide +kernel
theorem d_TX_isBreakBehind_66 : decode b_TX_isBreakBehind 66 = .ok (.iconst 0, 1) := by decide +kernel
theorem d_TX_isBreakBehind_67 : decode b_TX_isBreakBehind 67 = .ok (.ireturn, 1) := by decide +kernel
end
section
set_option maxHeartbeats 4000000 in
set_option maxRecDepth 100000 in
/-- Paragraph.stepAbove -/
theorem c_stepAbove (l : Launch) {D : va_G} {ad : Nat → Nat} {cs : pg_C} {rp : Option Nat} {M : Nat → Nat → Int} (f st : Int) (hf : zb f) (hst : zb st) : Met l y_PA_stepAbove ws_PA_stepAbove ({ frames := 0, cells := 0, slots := 0, locals := 0 } : Room) (va_Pc [.int (iI (f)), .int (iI (st))] (ro_B D vwCl (pg_tys cs) (pg_w ad cs rp M))) (vp_Si (fun r => r = iI (p_step f st))) 0 0 (fun _ => False) := by
  refine Met.ofW (cc := b_PA_stepAbove) (maxL := 2) (ret := (some .int)) (by decide) rfl ?_
  intro p e s m args below meth c s₁ B hml hv
  obtain ⟨rfl, hP, hK⟩ := hv
  have hx := B.exec
  have hb := B.bytes
  have hr := B.returns
  have hts := atoms_spec (ws := ws_PA_stepAbove) B.pre
  have hg : ∀ w ∈ gt, w.before _ s = true := fun w h => hts w (List.mem_cons_of_mem _ h)
  have hown : s.vm.findClass R_PA = some m.cls := findClass_of_methodNamed B.named
  have hlocks := B.notSynchronized
  have hl := lv_entry ([.int (iI (f)), .int (iI (st))]) (n := 2) (Nat.le_of_ble_eq_true rfl)
  rw [lg_entry_eq]
  generalize (lg_sl ([.int (iI (f)), .int (iI (st))]) ++ List.replicate (2 - (lg_sl ([.int (iI (f)), .int (iI (st))])).length) Slot.unset).toArray = ls at hl ⊢
  have hl : lv_has ls 2 [(0, .int (iI (f))), (1, .int (iI (st)))] := hl
  refine lv_iload_n hx hb d_PA_stepAbove_0 rfl (lv_at hl 1 rfl) ?_
  refine z_if_le hx hb (tgt := 14) d_PA_stepAbove_1 (by decide) hst (fun c_1 => ?_) (fun c_1 => ?_)
  · refine lv_iload_n hx hb d_PA_stepAbove_14 rfl (lv_at hl 0 rfl) ?_
    exact W.iret (v := iI (f)) hx hb hr (fun t ht hW => ⟨_, rfl, by unfold p_step; split <;> first | rfl | (exfalso; omega), ht⟩) (fun q h => by cases h) d_PA_stepAbove_15
  · refine lv_iload_n hx hb d_PA_stepAbove_4 rfl (lv_at hl 0 rfl) ?_
    refine lv_iload_n hx hb d_PA_stepAbove_5 rfl (lv_at hl 1 rfl) ?_
    refine z_idiv hx hb d_PA_stepAbove_6 hf hst (by omega) (v := ((f).tdiv (st))) rfl ?_
    refine z_iconst hx hb (z := 1) d_PA_stepAbove_7 ?_
    refine z_iadd hx hb d_PA_stepAbove_8 (v := (((f).tdiv (st)) + 1)) rfl ?_
    refine lv_iload_n hx hb d_PA_stepAbove_9 rfl (lv_at hl 1 rfl) ?_
    refine z_imul hx hb d_PA_stepAbove_10 (v := ((((f).tdiv (st)) + 1) * st)) rfl ?_
    refine lv_goto (tgt := 15) hx hb d_PA_stepAbove_11 (by decide) ?_
    exact W.iret (v := iI (((((f).tdiv (st)) + 1) * st))) hx hb hr (fun t ht hW => ⟨_, rfl, by unfold p_step; split <;> first | rfl | (exfalso; omega), ht⟩) (fun q h => by cases h) d_PA_stepAbove_15
set_option maxHeartbeats 4000000 in
set_option maxRecDepth 100000 in
/-- Paragraph.lastStop -/
theorem c_lastStop (l : Launch) {D : va_G} {ad : Nat → Nat} {cs : pg_C} {rp : Option Nat} {M : Nat → Nat → Int} (i n : Nat) (hi : i < 30) (hn : n ≤ 8) (hs : M (29 + 4 * i) 3 = ((n : Nat) : Int)) : Met l y_PA_lastStop ws_PA_lastStop ({ frames := 0, cells := 0, slots := 0, locals := 0 } : Room) (va_Pc [.ref (ad (29 + 4 * i))] (ro_B D vwCl (pg_tys cs) (pg_w ad cs rp M))) (vp_Si (fun r => r = iI (p_last n (M (31 + 4 * i))))) 0 0 (fun _ => False) := by
  refine Met.ofW (cc := b_PA_lastStop) (maxL := 1) (ret := (some .int)) (by decide) rfl ?_
  intro p e s m args below meth c s₁ B hml hv
  obtain ⟨rfl, hP, hK⟩ := hv
  have hx := B.exec
  have hb := B.bytes
  have hr := B.returns
  have hts := atoms_spec (ws := ws_PA_lastStop) B.pre
  have hg : ∀ w ∈ gt, w.before _ s = true := fun w h => hts w (List.mem_cons_of_mem _ h)
  have hown : s.vm.findClass R_PA = some m.cls := findClass_of_methodNamed B.named
  have hlocks := B.notSynchronized
  have hl := lv_entry ([.ref (ad (29 + 4 * i))]) (n := 1) (Nat.le_of_ble_eq_true rfl)
  rw [lg_entry_eq]
  generalize (lg_sl ([.ref (ad (29 + 4 * i))]) ++ List.replicate (1 - (lg_sl ([.ref (ad (29 + 4 * i))])).length) Slot.unset).toArray = ls at hl ⊢
  have hl : lv_has ls 1 [(0, .ref (ad (29 + 4 * i)))] := hl
  refine lv_aload_n hx hb d_PA_lastStop_0 rfl (lv_at hl 0 rfl) ?_
  refine z_get (ci := 6) (C := R_PA) (T := T_PA) (N := 6) (v := .int (iI (M (29 + 4 * i) 3))) hx hb hg in_PA hown hK hP (29 + 4 * i) (by omega) (pg_par _ _ _ _ _) rfl 3 (by decide) (hg _ (List.mem_append_right _ (List.mem_append_right _ (List.mem_append_left _ (List.mem_of_getElem? (i := 3) rfl))))) (fun _ h9 => h9) rfl d_PA_lastStop_1 ?_
  refine z_if_le hx hb (tgt := 21) d_PA_lastStop_4 (by decide) ⟨by omega, by omega⟩ (fun c_4 => ?_) (fun c_4 => ?_)
  · refine z_iconst hx hb (z := 0) d_PA_lastStop_21 ?_
    exact W.iret (v := iI (0)) hx hb hr (fun t ht hW => ⟨_, rfl, by unfold p_last; split <;> first | rfl | (exfalso; omega), ht⟩) (fun q h => by cases h) d_PA_lastStop_22
  · refine lv_aload_n hx hb d_PA_lastStop_7 rfl (lv_at hl 0 rfl) ?_
    refine z_get (ci := 6) (C := R_PA) (T := T_PA) (N := 6) (v := .ref (ad (31 + 4 * i))) hx hb hg in_PA hown hK hP (29 + 4 * i) (by omega) (pg_par _ _ _ _ _) rfl 1 (by decide) (hg _ (List.mem_append_right _ (List.mem_append_right _ (List.mem_append_left _ (List.mem_of_getElem? (i := 1) rfl))))) (fun _ h9 => h9) rfl d_PA_lastStop_8 ?_
    refine lv_aload_n hx hb d_PA_lastStop_11 rfl (lv_at hl 0 rfl) ?_
    refine z_get (ci := 6) (C := R_PA) (T := T_PA) (N := 6) (v := .int (iI (M (29 + 4 * i) 3))) hx hb hg in_PA hown hK hP (29 + 4 * i) (by omega) (pg_par _ _ _ _ _) rfl 3 (by decide) (hg _ (List.mem_append_right _ (List.mem_append_right _ (List.mem_append_left _ (List.mem_of_getElem? (i := 3) rfl))))) (fun _ h9 => h9) rfl d_PA_lastStop_12 ?_
    refine z_iconst hx hb (z := 1) d_PA_lastStop_15 ?_
    refine z_isub hx hb d_PA_lastStop_16 (v := (M (29 + 4 * i) 3 - 1)) rfl ?_
    refine z_iald hx hb hK hP (31 + 4 * i) 0 (by omega) (fun r => pg_plc _ _ _ _ r) rfl (n - 1) (by omega) (by omega) (by decide) d_PA_lastStop_17 ?_
    refine lv_goto (tgt := 22) hx hb d_PA_lastStop_18 (by decide) ?_
    exact W.iret (v := iI (M (31 + 4 * i) (n - 1))) hx hb hr (fun t ht hW => ⟨_, rfl, by unfold p_last; split <;> first | rfl | (exfalso; omega), ht⟩) (fun q h => by cases h) d_PA_lastStop_22
set_option maxHeartbeats 4000000 in
set_option maxRecDepth 100000 in
theorem lp_ownStopAbove {p : Program} {l : Launch} {e : Env} {R : Room} {s : State} {m : MethodId} {args : Array Value} {below : List Frame} {meth : Method} {c : Code} {H : Heap} {locs : List Loc} {cells slots : Nat} {Q : State → Prop} {D : va_G} {ad : Nat → Nat} {cs : pg_C} {rp : Option Nat} {M : Nat → Nat → Int} (hx : p.tables.exec = Jvm.exec) (hb : c.code = b_PA_ownStopAbove) (hg : ∀ w ∈ gt, w.before args s = true) (hown : s.vm.findClass R_PA = some m.cls) (hK : va_K D vwCl (pg_tys cs) s) (hP : va_P D vwCl (pg_w ad cs rp M) H) (i n : Nat) (x : Int) (hxb : zb x) (hi : i < 30) (hn : n ≤ 8) (hs : M (29 + 4 * i) 3 = ((n : Nat) : Int)) (hz : ∀ j, zb (M (31 + 4 * i) j)) (kk : ∀ ls : Array Slot, lv_has ls 3 [(2, .int (iI (((p_own (M (31 + 4 * i)) x n 0 : Nat) : Int)))), (0, .ref (ad (29 + 4 * i))), (1, .int (iI (x)))] → W p l e R s m args below meth c H locs cells slots Q (F0 m 26 ls [])) : ∀ (f o : Nat) (ls : Array Slot), o + f = n → p_own (M (31 + 4 * i)) x f o = p_own (M (31 + 4 * i)) x n 0 → lv_has ls 3 [(2, .int (iI (((o : Nat) : Int)))), (0, .ref (ad (29 + 4 * i))), (1, .int (iI (x)))] → W p l e R s m args below meth c H locs cells slots Q (F0 m 2 ls []) := by
  intro f
  induction f with
  | zero =>
    intro o ls ho he hl
    refine lv_iload_n hx hb d_PA_ownStopAbove_2 rfl (lv_at hl 0 rfl) ?_
    refine lv_aload_n hx hb d_PA_ownStopAbove_3 rfl (lv_at hl 1 rfl) ?_
    refine z_get (ci := 6) (C := R_PA) (T := T_PA) (N := 6) (v := .int (iI (M (29 + 4 * i) 3))) hx hb hg in_PA hown hK hP (29 + 4 * i) (by omega) (pg_par _ _ _ _ _) rfl 3 (by decide) (hg _ (List.mem_append_right _ (List.mem_append_right _ (List.mem_append_left _ (List.mem_of_getElem? (i := 3) rfl))))) (fun _ h9 => h9) rfl d_PA_ownStopAbove_4 ?_
    refine z_icmp_ge hx hb (tgt := 26) d_PA_ownStopAbove_7 (by decide) ⟨by omega, by omega⟩ ⟨by omega, by omega⟩ (fun c_7 => ?_) (fun c_7 => ?_)
    · have he : o = p_own (M (31 + 4 * i)) x n 0 := he
      rw [he] at hl
      exact kk ls hl
    · exact absurd c_7 (by omega)
  | succ f ih =>
    intro o ls ho he hl
    refine lv_iload_n hx hb d_PA_ownStopAbove_2 rfl (lv_at hl 0 rfl) ?_
    refine lv_aload_n hx hb d_PA_ownStopAbove_3 rfl (lv_at hl 1 rfl) ?_
    refine z_get (ci := 6) (C := R_PA) (T := T_PA) (N := 6) (v := .int (iI (M (29 + 4 * i) 3))) hx hb hg in_PA hown hK hP (29 + 4 * i) (by omega) (pg_par _ _ _ _ _) rfl 3 (by decide) (hg _ (List.mem_append_right _ (List.mem_append_right _ (List.mem_append_left _ (List.mem_of_getElem? (i := 3) rfl))))) (fun _ h9 => h9) rfl d_PA_ownStopAbove_4 ?_
    refine z_icmp_ge hx hb (tgt := 26) d_PA_ownStopAbove_7 (by decide) ⟨by omega, by omega⟩ ⟨by omega, by omega⟩ (fun c_7 => ?_) (fun c_7 => ?_)
    · exact absurd c_7 (by omega)
    · refine lv_aload_n hx hb d_PA_ownStopAbove_10 rfl (lv_at hl 1 rfl) ?_
      refine z_get (ci := 6) (C := R_PA) (T := T_PA) (N := 6) (v := .ref (ad (31 + 4 * i))) hx hb hg in_PA hown hK hP (29 + 4 * i) (by omega) (pg_par _ _ _ _ _) rfl 1 (by decide) (hg _ (List.mem_append_right _ (List.mem_append_right _ (List.mem_append_left _ (List.mem_of_getElem? (i := 1) rfl))))) (fun _ h9 => h9) rfl d_PA_ownStopAbove_11 ?_
      refine lv_iload_n hx hb d_PA_ownStopAbove_14 rfl (lv_at hl 0 rfl) ?_
      refine z_iald hx hb hK hP (31 + 4 * i) 0 (by omega) (fun r => pg_plc _ _ _ _ r) rfl (o) rfl (by omega) (by decide) d_PA_ownStopAbove_15 ?_
      refine lv_iload_n hx hb d_PA_ownStopAbove_16 rfl (lv_at hl 2 rfl) ?_
      refine z_icmp_gt hx hb (tgt := 26) d_PA_ownStopAbove_17 (by decide) (hz _) hxb (fun c_17 => ?_) (fun c_17 => ?_)
      · have he : o = p_own (M (31 + 4 * i)) x n 0 := by rw [← he]; unfold p_own; rw [if_neg (by omega)]
        rw [he] at hl
        exact kk ls hl
      · refine z_iinc (v := ((o + 1 : Nat) : Int)) (lv' := [(2, .int (iI (((o + 1 : Nat) : Int)))), (0, .ref (ad (29 + 4 * i))), (1, .int (iI (x)))]) hx hb d_PA_ownStopAbove_20 hl (k := 0) rfl (by omega) (by decide) rfl (fun ls hl => ?_)
        refine lv_goto (tgt := 2) hx hb d_PA_ownStopAbove_23 (by decide) ?_
        exact ih (o + 1) ls (by omega) (by rw [← he]; conv => rhs; unfold p_own; rw [if_pos (by omega)]) hl
set_option maxHeartbeats 4000000 in
set_option maxRecDepth 100000 in
/-- Paragraph.ownStopAbove -/
theorem c_ownStopAbove (l : Launch) {D : va_G} {ad : Nat → Nat} {cs : pg_C} {rp : Option Nat} {M : Nat → Nat → Int} (i n : Nat) (x : Int) (hxb : zb x) (hi : i < 30) (hn : n ≤ 8) (hs : M (29 + 4 * i) 3 = ((n : Nat) : Int)) (hz : ∀ j, zb (M (31 + 4 * i) j)) : Met l y_PA_ownStopAbove ws_PA_ownStopAbove ({ frames := 0, cells := 0, slots := 0, locals := 0 } : Room) (va_Pc [.ref (ad (29 + 4 * i)), .int (iI (x))] (ro_B D vwCl (pg_tys cs) (pg_w ad cs rp M))) (vp_Si (fun r => r = iI (((p_own (M (31 + 4 * i)) x n 0 : Nat) : Int)))) 0 0 (fun _ => False) := by
  refine Met.ofW (cc := b_PA_ownStopAbove) (maxL := 3) (ret := (some .int)) (by decide) rfl ?_
  intro p e s m args below meth c s₁ B hml hv
  obtain ⟨rfl, hP, hK⟩ := hv
  have hx := B.exec
  have hb := B.bytes
  have hr := B.returns
  have hts := atoms_spec (ws := ws_PA_ownStopAbove) B.pre
  have hg : ∀ w ∈ gt, w.before _ s = true := fun w h => hts w (List.mem_cons_of_mem _ h)
  have hown : s.vm.findClass R_PA = some m.cls := findClass_of_methodNamed B.named
  have hlocks := B.notSynchronized
  have hl := lv_entry ([.ref (ad (29 + 4 * i)), .int (iI (x))]) (n := 3) (Nat.le_of_ble_eq_true rfl)
  rw [lg_entry_eq]
  generalize (lg_sl ([.ref (ad (29 + 4 * i)), .int (iI (x))]) ++ List.replicate (3 - (lg_sl ([.ref (ad (29 + 4 * i)), .int (iI (x))])).length) Slot.unset).toArray = ls at hl ⊢
  have hl : lv_has ls 3 [(0, .ref (ad (29 + 4 * i))), (1, .int (iI (x)))] := hl
  refine z_iconst hx hb (z := 0) d_PA_ownStopAbove_0 ?_
  refine lv_istore_n (lv' := [(2, .int (iI (0))), (0, .ref (ad (29 + 4 * i))), (1, .int (iI (x)))]) hx hb d_PA_ownStopAbove_1 rfl hl (by decide) rfl (fun ls hl => ?_)
  refine lp_ownStopAbove hx hb hg hown hK hP i n x hxb hi hn hs hz (fun ls hl => ?_) n 0 ls (by omega) rfl hl
  refine lv_iload_n hx hb d_PA_ownStopAbove_26 rfl (lv_at hl 0 rfl) ?_
  exact W.iret (v := iI (((p_own (M (31 + 4 * i)) x n 0 : Nat) : Int))) hx hb hr (fun t ht hW => ⟨_, rfl, rfl, ht⟩) (fun q h => by cases h) d_PA_ownStopAbove_27
set_option maxHeartbeats 4000000 in
set_option maxRecDepth 100000 in
/-- Paragraph.tabWidth -/
theorem c_tabWidth (l : Launch) {D : va_G} {ad : Nat → Nat} {cs : pg_C} {rp : Option Nat} {M : Nat → Nat → Int} (i n : Nat) (x wd stp : Int) (hxb : 0 ≤ x ∧ x ≤ 100000000) (hwd : 0 ≤ wd ∧ wd ≤ 100000000) (hst : 1 ≤ stp ∧ stp ≤ 30000) (hi : i < 30) (hn : n ≤ 8) (hs : M (29 + 4 * i) 3 = ((n : Nat) : Int)) (hz : ∀ j, 0 ≤ M (31 + 4 * i) j ∧ M (31 + 4 * i) j ≤ 30000) (hz2 : ∀ j, zb (M (32 + 4 * i) j)) : Met l y_PA_tabWidth ws_PA_tabWidth ({ frames := 1, cells := 0, slots := 0, locals := 24 } : Room) (va_Pc [.ref (ad (29 + 4 * i)), .int (iI (x)), .int (iI (wd)), .int (iI (stp))] (ro_B D vwCl (pg_tys cs) (pg_w ad cs rp M))) (vp_Si (fun r => r = iI (p_tab n (M (31 + 4 * i)) (M (32 + 4 * i)) x wd stp))) 0 0 (fun _ => False) := by
  refine Met.ofW (cc := b_PA_tabWidth) (maxL := 8) (ret := (some .int)) (by decide) rfl ?_
  intro p e s m args below meth c s₁ B hml hv
  obtain ⟨rfl, hP, hK⟩ := hv
  have hx := B.exec
  have hb := B.bytes
  have hr := B.returns
  have hts := atoms_spec (ws := ws_PA_tabWidth) B.pre
  have hg : ∀ w ∈ gt, w.before _ s = true := fun w h => hts w (List.mem_cons_of_mem _ h)
  have hown : s.vm.findClass R_PA = some m.cls := findClass_of_methodNamed B.named
  have hlocks := B.notSynchronized
  have hl := lv_entry ([.ref (ad (29 + 4 * i)), .int (iI (x)), .int (iI (wd)), .int (iI (stp))]) (n := 8) (Nat.le_of_ble_eq_true rfl)
  rw [lg_entry_eq]
  generalize (lg_sl ([.ref (ad (29 + 4 * i)), .int (iI (x)), .int (iI (wd)), .int (iI (stp))]) ++ List.replicate (8 - (lg_sl ([.ref (ad (29 + 4 * i)), .int (iI (x)), .int (iI (wd)), .int (iI (stp))])).length) Slot.unset).toArray = ls at hl ⊢
  have hl : lv_has ls 8 [(0, .ref (ad (29 + 4 * i))), (1, .int (iI (x))), (2, .int (iI (wd))), (3, .int (iI (stp)))] := hl
  have hzz : ∀ j, zb (M (31 + 4 * i) j) := fun j => ⟨by have := hz j; omega, by have := hz j; omega⟩
  have hxz : zb x := ⟨by omega, by omega⟩
  obtain ⟨ow, how⟩ : ∃ q, q = p_own (M (31 + 4 * i)) x n 0 := ⟨_, rfl⟩
  have hol : ow ≤ n := by have := p_own_le (M (31 + 4 * i)) x n 0; omega
  obtain ⟨la, hla⟩ : ∃ q, q = p_last n (M (31 + 4 * i)) := ⟨_, rfl⟩
  have hlb : 0 ≤ la ∧ la ≤ 30000 := by rw [hla]; unfold p_last; split <;> first | exact hz _ | omega
  have hzo := hz ow
  have hko := hz2 ow
  obtain ⟨ps, hps⟩ : ∃ q, q = p_step (max x la) stp := ⟨_, rfl⟩
  have hpb : max x la < ps ∧ ps ≤ max x la + stp := by rw [hps]; exact p_stepb (by omega) (by omega)
  have hw2 : 0 ≤ wd.tdiv 2 ∧ wd.tdiv 2 ≤ wd := by rw [Int.tdiv_eq_ediv_of_nonneg (by omega)]; omega
  refine lv_aload_n hx hb d_PA_tabWidth_0 rfl (lv_at hl 0 rfl) ?_
  refine lv_iload_n hx hb d_PA_tabWidth_1 rfl (lv_at hl 1 rfl) ?_
  refine ro_V (As := [.int (iI (x))]) (rest := []) (z := ((ow : Nat) : Int)) ⟨hx, hb, hml, hown, hg⟩ (how ▸ c_ownStopAbove l i n x hxz hi hn hs hzz) (cwV 1 hg (gt_V (List.mem_append_right _ (List.mem_append_right _ (List.mem_append_right _ (List.mem_append_right _ (List.mem_append_right _ (List.mem_append_right _ (List.mem_append_left _ (List.mem_of_getElem? (i := 15) rfl)))))))) (List.mem_append_right _ (List.mem_append_right _ (List.mem_append_right _ (List.mem_append_right _ (List.mem_append_right _ (List.mem_append_right _ (List.mem_append_left _ (List.mem_of_getElem? (i := 16) rfl)))))))) (List.mem_append_left _ (List.mem_of_getElem? (i := 5) rfl)) (List.mem_append_right _ (List.mem_append_left _ (List.mem_of_getElem? (i := 4) rfl))) (List.mem_append_right _ (List.mem_append_right _ (List.mem_append_right _ (List.mem_append_right _ (List.mem_append_right _ (List.mem_append_right _ (List.mem_append_left _ (List.mem_of_getElem? (i := 17) rfl))))))))) rfl rfl rfl (by decide +kernel) ⟨Nat.le_of_ble_eq_true rfl, Nat.le_of_ble_eq_true rfl⟩) hK hP (va_recv hK hP (ci := 6) (q0 := 29 + 4 * i) rfl (wl_atE (by omega) (pg_par _ _ _ _ _))) rfl hl.1 rfl (Nat.le_of_ble_eq_true rfl) d_PA_tabWidth_2 ⟨Nat.zero_le _, Nat.zero_le _⟩ ?_
  refine lv_istore (lv' := [(4, .int (iI (((ow : Nat) : Int)))), (0, .ref (ad (29 + 4 * i))), (1, .int (iI (x))), (2, .int (iI (wd))), (3, .int (iI (stp)))]) hx hb d_PA_tabWidth_5 hl (by decide) rfl (fun ls hl => ?_)
  refine lv_iload hx hb d_PA_tabWidth_7 (lv_at hl 0 rfl) ?_
  refine lv_aload_n hx hb d_PA_tabWidth_9 rfl (lv_at hl 1 rfl) ?_
  refine z_get (ci := 6) (C := R_PA) (T := T_PA) (N := 6) (v := .int (iI (M (29 + 4 * i) 3))) hx hb hg in_PA hown hK hP (29 + 4 * i) (by omega) (pg_par _ _ _ _ _) rfl 3 (by decide) (hg _ (List.mem_append_right _ (List.mem_append_right _ (List.mem_append_left _ (List.mem_of_getElem? (i := 3) rfl))))) (fun _ h9 => h9) rfl d_PA_tabWidth_10 ?_
  refine z_icmp_ge hx hb (tgt := 26) d_PA_tabWidth_13 (by decide) ⟨by omega, by omega⟩ ⟨by omega, by omega⟩ (fun c_13 => ?_) (fun c_13 => ?_)
  · refine lv_iload_n hx hb d_PA_tabWidth_26 rfl (lv_at hl 2 rfl) ?_
    refine lv_aload_n hx hb d_PA_tabWidth_27 rfl (lv_at hl 1 rfl) ?_
    refine ro_V (As := []) (rest := [.int (iI (x))]) (z := la) ⟨hx, hb, hml, hown, hg⟩ (hla ▸ c_lastStop l i n hi hn hs) (cwV 0 hg (gt_V (List.mem_append_right _ (List.mem_append_right _ (List.mem_append_right _ (List.mem_append_right _ (List.mem_append_right _ (List.mem_append_right _ (List.mem_append_left _ (List.mem_of_getElem? (i := 18) rfl)))))))) (List.mem_append_right _ (List.mem_append_right _ (List.mem_append_right _ (List.mem_append_right _ (List.mem_append_right _ (List.mem_append_right _ (List.mem_append_left _ (List.mem_of_getElem? (i := 19) rfl)))))))) (List.mem_append_right _ (List.mem_append_right _ (List.mem_append_right _ (List.mem_append_right _ (List.mem_append_right _ (List.mem_append_right _ (List.mem_append_left _ (List.mem_of_getElem? (i := 20) rfl)))))))) (List.mem_append_right _ (List.mem_append_left _ (List.mem_of_getElem? (i := 4) rfl))) (List.mem_append_right _ (List.mem_append_right _ (List.mem_append_right _ (List.mem_append_right _ (List.mem_append_right _ (List.mem_append_right _ (List.mem_append_left _ (List.mem_of_getElem? (i := 21) rfl))))))))) rfl rfl rfl (by decide +kernel) ⟨Nat.le_of_ble_eq_true rfl, Nat.le_of_ble_eq_true rfl⟩) hK hP (va_recv hK hP (ci := 6) (q0 := 29 + 4 * i) rfl (wl_atE (by omega) (pg_par _ _ _ _ _))) rfl hl.1 rfl (Nat.le_of_ble_eq_true rfl) d_PA_tabWidth_28 ⟨Nat.zero_le _, Nat.zero_le _⟩ ?_
    refine z_mmax hx hb (hml.trans hl.1.symm) hown (hg _ (List.mem_append_right _ (List.mem_append_right _ (List.mem_append_right _ (List.mem_append_right _ (List.mem_append_right _ (List.mem_append_right _ (List.mem_append_left _ (List.mem_of_getElem? (i := 22) rfl))))))))) (hg _ (List.mem_append_right _ (List.mem_append_right _ (List.mem_append_right _ (List.mem_append_right _ (List.mem_append_right _ (List.mem_append_left _ (List.mem_of_getElem? (i := 28) rfl)))))))) (hg _ (List.mem_append_right _ (List.mem_append_left _ (List.mem_of_getElem? (i := 17) rfl)))) (hg _ (List.mem_append_right _ (List.mem_append_right _ (List.mem_append_right _ (List.mem_append_right _ (List.mem_append_right _ (List.mem_append_left _ (List.mem_of_getElem? (i := 29) rfl)))))))) (Nat.le_of_ble_eq_true rfl) (Nat.le_of_ble_eq_true rfl) (Nat.zero_le _) (Nat.zero_le _) ⟨by omega, by omega⟩ ⟨by omega, by omega⟩ d_PA_tabWidth_31 (v := max (x) (la)) rfl ?_
    refine lv_iload_n hx hb d_PA_tabWidth_34 rfl (lv_at hl 4 rfl) ?_
    refine ro_S (As := [.int (iI (max (x) (la))), .int (iI (stp))]) (rest := []) (z := p_step (max (x) (la)) stp) ⟨hx, hb, hml, hown, hg⟩ (c_stepAbove l (max (x) (la)) stp ⟨by omega, by omega⟩ ⟨by omega, by omega⟩) (cwS 2 hg (gt_S (List.mem_append_right _ (List.mem_append_right _ (List.mem_append_right _ (List.mem_append_right _ (List.mem_append_right _ (List.mem_append_right _ (List.mem_append_left _ (List.mem_of_getElem? (i := 23) rfl)))))))) (List.mem_append_right _ (List.mem_append_right _ (List.mem_append_right _ (List.mem_append_right _ (List.mem_append_right _ (List.mem_append_right _ (List.mem_append_left _ (List.mem_of_getElem? (i := 24) rfl)))))))) (List.mem_append_right _ (List.mem_append_left _ (List.mem_of_getElem? (i := 4) rfl))) (List.mem_append_right _ (List.mem_append_right _ (List.mem_append_right _ (List.mem_append_right _ (List.mem_append_right _ (List.mem_append_right _ (List.mem_append_left _ (List.mem_of_getElem? (i := 25) rfl))))))))) rfl rfl rfl (by decide +kernel) ⟨Nat.le_of_ble_eq_true rfl, Nat.le_of_ble_eq_true rfl⟩) hK hP rfl hl.1 rfl (Nat.le_of_ble_eq_true rfl) d_PA_tabWidth_35 ⟨Nat.zero_le _, Nat.zero_le _⟩ ?_
    refine lv_istore (lv' := [(5, .int (iI (p_step (max (x) (la)) stp))), (4, .int (iI (((ow : Nat) : Int)))), (0, .ref (ad (29 + 4 * i))), (1, .int (iI (x))), (2, .int (iI (wd))), (3, .int (iI (stp)))]) hx hb d_PA_tabWidth_38 hl (by decide) rfl (fun ls hl => ?_)
    refine lv_iload hx hb d_PA_tabWidth_40 (lv_at hl 1 rfl) ?_
    refine lv_aload_n hx hb d_PA_tabWidth_42 rfl (lv_at hl 2 rfl) ?_
    refine z_get (ci := 6) (C := R_PA) (T := T_PA) (N := 6) (v := .int (iI (M (29 + 4 * i) 3))) hx hb hg in_PA hown hK hP (29 + 4 * i) (by omega) (pg_par _ _ _ _ _) rfl 3 (by decide) (hg _ (List.mem_append_right _ (List.mem_append_right _ (List.mem_append_left _ (List.mem_of_getElem? (i := 3) rfl))))) (fun _ h9 => h9) rfl d_PA_tabWidth_43 ?_
    refine z_icmp_ge hx hb (tgt := 59) d_PA_tabWidth_46 (by decide) ⟨by omega, by omega⟩ ⟨by omega, by omega⟩ (fun c_46 => ?_) (fun c_46 => ?_)
    · refine z_iconst hx hb (z := 0) d_PA_tabWidth_59 ?_
      refine lv_istore (lv' := [(6, .int (iI (0))), (5, .int (iI (p_step (max (x) (la)) stp))), (4, .int (iI (((ow : Nat) : Int)))), (0, .ref (ad (29 + 4 * i))), (1, .int (iI (x))), (2, .int (iI (wd))), (3, .int (iI (stp)))]) hx hb d_PA_tabWidth_60 hl (by decide) rfl (fun ls hl => ?_)
      refine lv_iload hx hb d_PA_tabWidth_62 (lv_at hl 1 rfl) ?_
      refine lv_iload_n hx hb d_PA_tabWidth_64 rfl (lv_at hl 4 rfl) ?_
      refine z_isub hx hb d_PA_tabWidth_65 (v := (p_step (max (x) (la)) stp - x)) rfl ?_
      refine lv_istore (lv' := [(7, .int (iI ((p_step (max (x) (la)) stp - x)))), (6, .int (iI (0))), (5, .int (iI (p_step (max (x) (la)) stp))), (4, .int (iI (((ow : Nat) : Int)))), (0, .ref (ad (29 + 4 * i))), (1, .int (iI (x))), (2, .int (iI (wd))), (3, .int (iI (stp)))]) hx hb d_PA_tabWidth_66 hl (by decide) rfl (fun ls hl => ?_)
      refine lv_iload hx hb d_PA_tabWidth_68 (lv_at hl 1 rfl) ?_
      refine z_iconst hx hb (z := 1) d_PA_tabWidth_70 ?_
      refine z_icmp_ne hx hb (tgt := 83) d_PA_tabWidth_71 (by decide) (by first | exact hko | exact ⟨by omega, by omega⟩) ⟨by decide, by decide⟩ (fun c_71 => ?_) (fun c_71 => ?_)
      · refine lv_iload hx hb d_PA_tabWidth_83 (lv_at hl 1 rfl) ?_
        refine z_iconst hx hb (z := 2) d_PA_tabWidth_85 ?_
        refine z_icmp_ne hx hb (tgt := 97) d_PA_tabWidth_86 (by decide) (by first | exact hko | exact ⟨by omega, by omega⟩) ⟨by decide, by decide⟩ (fun c_86 => ?_) (fun c_86 => ?_)
        · refine z_iconst hx hb (z := 0) d_PA_tabWidth_97 ?_
          refine lv_iload hx hb d_PA_tabWidth_98 (lv_at hl 0 rfl) ?_
          refine z_mmax hx hb (hml.trans hl.1.symm) hown (hg _ (List.mem_append_right _ (List.mem_append_right _ (List.mem_append_right _ (List.mem_append_right _ (List.mem_append_right _ (List.mem_append_right _ (List.mem_append_left _ (List.mem_of_getElem? (i := 22) rfl))))))))) (hg _ (List.mem_append_right _ (List.mem_append_right _ (List.mem_append_right _ (List.mem_append_right _ (List.mem_append_right _ (List.mem_append_left _ (List.mem_of_getElem? (i := 28) rfl)))))))) (hg _ (List.mem_append_right _ (List.mem_append_left _ (List.mem_of_getElem? (i := 17) rfl)))) (hg _ (List.mem_append_right _ (List.mem_append_right _ (List.mem_append_right _ (List.mem_append_right _ (List.mem_append_right _ (List.mem_append_left _ (List.mem_of_getElem? (i := 29) rfl)))))))) (Nat.le_of_ble_eq_true rfl) (Nat.le_of_ble_eq_true rfl) (Nat.zero_le _) (Nat.zero_le _) ⟨by decide, by decide⟩ ⟨by omega, by omega⟩ d_PA_tabWidth_100 (v := max (0) ((p_step (max (x) (la)) stp - x))) rfl ?_
          exact W.iret (v := iI (max (0) ((p_step (max (x) (la)) stp - x)))) hx hb hr (fun t ht hW => ⟨_, rfl, by unfold p_tab p_at p_knd; rw [← how, ← hla, ← hps]; repeat' (first | rfl | (exfalso; omega) | split), ht⟩) (fun q h => by cases h) d_PA_tabWidth_103
        · refine lv_iload hx hb d_PA_tabWidth_89 (lv_at hl 0 rfl) ?_
          refine lv_iload_n hx hb d_PA_tabWidth_91 rfl (lv_at hl 6 rfl) ?_
          refine z_iconst hx hb (z := 2) d_PA_tabWidth_92 ?_
          refine z_idiv hx hb d_PA_tabWidth_93 ⟨by omega, by omega⟩ ⟨by decide, by decide⟩ (by omega) (v := ((wd).tdiv (2))) rfl ?_
          refine z_isub hx hb d_PA_tabWidth_94 (v := ((p_step (max (x) (la)) stp - x) - ((wd).tdiv (2)))) rfl ?_
          refine lv_istore (lv' := [(7, .int (iI (((p_step (max (x) (la)) stp - x) - ((wd).tdiv (2)))))), (6, .int (iI (0))), (5, .int (iI (p_step (max (x) (la)) stp))), (4, .int (iI (((ow : Nat) : Int)))), (0, .ref (ad (29 + 4 * i))), (1, .int (iI (x))), (2, .int (iI (wd))), (3, .int (iI (stp)))]) hx hb d_PA_tabWidth_95 hl (by decide) rfl (fun ls hl => ?_)
          refine z_iconst hx hb (z := 0) d_PA_tabWidth_97 ?_
          refine lv_iload hx hb d_PA_tabWidth_98 (lv_at hl 0 rfl) ?_
          refine z_mmax hx hb (hml.trans hl.1.symm) hown (hg _ (List.mem_append_right _ (List.mem_append_right _ (List.mem_append_right _ (List.mem_append_right _ (List.mem_append_right _ (List.mem_append_right _ (List.mem_append_left _ (List.mem_of_getElem? (i := 22) rfl))))))))) (hg _ (List.mem_append_right _ (List.mem_append_right _ (List.mem_append_right _ (List.mem_append_right _ (List.mem_append_right _ (List.mem_append_left _ (List.mem_of_getElem? (i := 28) rfl)))))))) (hg _ (List.mem_append_right _ (List.mem_append_left _ (List.mem_of_getElem? (i := 17) rfl)))) (hg _ (List.mem_append_right _ (List.mem_append_right _ (List.mem_append_right _ (List.mem_append_right _ (List.mem_append_right _ (List.mem_append_left _ (List.mem_of_getElem? (i := 29) rfl)))))))) (Nat.le_of_ble_eq_true rfl) (Nat.le_of_ble_eq_true rfl) (Nat.zero_le _) (Nat.zero_le _) ⟨by decide, by decide⟩ ⟨by omega, by omega⟩ d_PA_tabWidth_100 (v := max (0) (((p_step (max (x) (la)) stp - x) - ((wd).tdiv (2))))) rfl ?_
          exact W.iret (v := iI (max (0) (((p_step (max (x) (la)) stp - x) - ((wd).tdiv (2)))))) hx hb hr (fun t ht hW => ⟨_, rfl, by unfold p_tab p_at p_knd; rw [← how, ← hla, ← hps]; repeat' (first | rfl | (exfalso; omega) | split), ht⟩) (fun q h => by cases h) d_PA_tabWidth_103
      · refine lv_iload hx hb d_PA_tabWidth_74 (lv_at hl 0 rfl) ?_
        refine lv_iload_n hx hb d_PA_tabWidth_76 rfl (lv_at hl 6 rfl) ?_
        refine z_isub hx hb d_PA_tabWidth_77 (v := ((p_step (max (x) (la)) stp - x) - wd)) rfl ?_
        refine lv_istore (lv' := [(7, .int (iI (((p_step (max (x) (la)) stp - x) - wd)))), (6, .int (iI (0))), (5, .int (iI (p_step (max (x) (la)) stp))), (4, .int (iI (((ow : Nat) : Int)))), (0, .ref (ad (29 + 4 * i))), (1, .int (iI (x))), (2, .int (iI (wd))), (3, .int (iI (stp)))]) hx hb d_PA_tabWidth_78 hl (by decide) rfl (fun ls hl => ?_)
        refine lv_goto (tgt := 97) hx hb d_PA_tabWidth_80 (by decide) ?_
        refine z_iconst hx hb (z := 0) d_PA_tabWidth_97 ?_
        refine lv_iload hx hb d_PA_tabWidth_98 (lv_at hl 0 rfl) ?_
        refine z_mmax hx hb (hml.trans hl.1.symm) hown (hg _ (List.mem_append_right _ (List.mem_append_right _ (List.mem_append_right _ (List.mem_append_right _ (List.mem_append_right _ (List.mem_append_right _ (List.mem_append_left _ (List.mem_of_getElem? (i := 22) rfl))))))))) (hg _ (List.mem_append_right _ (List.mem_append_right _ (List.mem_append_right _ (List.mem_append_right _ (List.mem_append_right _ (List.mem_append_left _ (List.mem_of_getElem? (i := 28) rfl)))))))) (hg _ (List.mem_append_right _ (List.mem_append_left _ (List.mem_of_getElem? (i := 17) rfl)))) (hg _ (List.mem_append_right _ (List.mem_append_right _ (List.mem_append_right _ (List.mem_append_right _ (List.mem_append_right _ (List.mem_append_left _ (List.mem_of_getElem? (i := 29) rfl)))))))) (Nat.le_of_ble_eq_true rfl) (Nat.le_of_ble_eq_true rfl) (Nat.zero_le _) (Nat.zero_le _) ⟨by decide, by decide⟩ ⟨by omega, by omega⟩ d_PA_tabWidth_100 (v := max (0) (((p_step (max (x) (la)) stp - x) - wd))) rfl ?_
        exact W.iret (v := iI (max (0) (((p_step (max (x) (la)) stp - x) - wd)))) hx hb hr (fun t ht hW => ⟨_, rfl, by unfold p_tab p_at p_knd; rw [← how, ← hla, ← hps]; repeat' (first | rfl | (exfalso; omega) | split), ht⟩) (fun q h => by cases h) d_PA_tabWidth_103
    · refine lv_aload_n hx hb d_PA_tabWidth_49 rfl (lv_at hl 2 rfl) ?_
      refine z_get (ci := 6) (C := R_PA) (T := T_PA) (N := 6) (v := .ref (ad (32 + 4 * i))) hx hb hg in_PA hown hK hP (29 + 4 * i) (by omega) (pg_par _ _ _ _ _) rfl 2 (by decide) (hg _ (List.mem_append_right _ (List.mem_append_right _ (List.mem_append_left _ (List.mem_of_getElem? (i := 2) rfl))))) (fun _ h9 => h9) rfl d_PA_tabWidth_50 ?_
      refine lv_iload hx hb d_PA_tabWidth_53 (lv_at hl 1 rfl) ?_
      refine z_iald hx hb hK hP (32 + 4 * i) 0 (by omega) (fun r => pg_knd _ _ _ _ r) rfl (ow) rfl (by omega) (by decide) d_PA_tabWidth_55 ?_
      refine lv_goto (tgt := 60) hx hb d_PA_tabWidth_56 (by decide) ?_
      refine lv_istore (lv' := [(6, .int (iI (M (32 + 4 * i) (ow)))), (5, .int (iI (p_step (max (x) (la)) stp))), (4, .int (iI (((ow : Nat) : Int)))), (0, .ref (ad (29 + 4 * i))), (1, .int (iI (x))), (2, .int (iI (wd))), (3, .int (iI (stp)))]) hx hb d_PA_tabWidth_60 hl (by decide) rfl (fun ls hl => ?_)
      refine lv_iload hx hb d_PA_tabWidth_62 (lv_at hl 1 rfl) ?_
      refine lv_iload_n hx hb d_PA_tabWidth_64 rfl (lv_at hl 4 rfl) ?_
      refine z_isub hx hb d_PA_tabWidth_65 (v := (p_step (max (x) (la)) stp - x)) rfl ?_
      refine lv_istore (lv' := [(7, .int (iI ((p_step (max (x) (la)) stp - x)))), (6, .int (iI (M (32 + 4 * i) (ow)))), (5, .int (iI (p_step (max (x) (la)) stp))), (4, .int (iI (((ow : Nat) : Int)))), (0, .ref (ad (29 + 4 * i))), (1, .int (iI (x))), (2, .int (iI (wd))), (3, .int (iI (stp)))]) hx hb d_PA_tabWidth_66 hl (by decide) rfl (fun ls hl => ?_)
      refine lv_iload hx hb d_PA_tabWidth_68 (lv_at hl 1 rfl) ?_
      refine z_iconst hx hb (z := 1) d_PA_tabWidth_70 ?_
      refine z_icmp_ne hx hb (tgt := 83) d_PA_tabWidth_71 (by decide) (by first | exact hko | exact ⟨by omega, by omega⟩) ⟨by decide, by decide⟩ (fun c_71 => ?_) (fun c_71 => ?_)
      · refine lv_iload hx hb d_PA_tabWidth_83 (lv_at hl 1 rfl) ?_
        refine z_iconst hx hb (z := 2) d_PA_tabWidth_85 ?_
        refine z_icmp_ne hx hb (tgt := 97) d_PA_tabWidth_86 (by decide) (by first | exact hko | exact ⟨by omega, by omega⟩) ⟨by decide, by decide⟩ (fun c_86 => ?_) (fun c_86 => ?_)
        · refine z_iconst hx hb (z := 0) d_PA_tabWidth_97 ?_
          refine lv_iload hx hb d_PA_tabWidth_98 (lv_at hl 0 rfl) ?_
          refine z_mmax hx hb (hml.trans hl.1.symm) hown (hg _ (List.mem_append_right _ (List.mem_append_right _ (List.mem_append_right _ (List.mem_append_right _ (List.mem_append_right _ (List.mem_append_right _ (List.mem_append_left _ (List.mem_of_getElem? (i := 22) rfl))))))))) (hg _ (List.mem_append_right _ (List.mem_append_right _ (List.mem_append_right _ (List.mem_append_right _ (List.mem_append_right _ (List.mem_append_left _ (List.mem_of_getElem? (i := 28) rfl)))))))) (hg _ (List.mem_append_right _ (List.mem_append_left _ (List.mem_of_getElem? (i := 17) rfl)))) (hg _ (List.mem_append_right _ (List.mem_append_right _ (List.mem_append_right _ (List.mem_append_right _ (List.mem_append_right _ (List.mem_append_left _ (List.mem_of_getElem? (i := 29) rfl)))))))) (Nat.le_of_ble_eq_true rfl) (Nat.le_of_ble_eq_true rfl) (Nat.zero_le _) (Nat.zero_le _) ⟨by decide, by decide⟩ ⟨by omega, by omega⟩ d_PA_tabWidth_100 (v := max (0) ((p_step (max (x) (la)) stp - x))) rfl ?_
          exact W.iret (v := iI (max (0) ((p_step (max (x) (la)) stp - x)))) hx hb hr (fun t ht hW => ⟨_, rfl, by unfold p_tab p_at p_knd; rw [← how, ← hla, ← hps]; repeat' (first | rfl | (exfalso; omega) | split), ht⟩) (fun q h => by cases h) d_PA_tabWidth_103
        · refine lv_iload hx hb d_PA_tabWidth_89 (lv_at hl 0 rfl) ?_
          refine lv_iload_n hx hb d_PA_tabWidth_91 rfl (lv_at hl 6 rfl) ?_
          refine z_iconst hx hb (z := 2) d_PA_tabWidth_92 ?_
          refine z_idiv hx hb d_PA_tabWidth_93 ⟨by omega, by omega⟩ ⟨by decide, by decide⟩ (by omega) (v := ((wd).tdiv (2))) rfl ?_
          refine z_isub hx hb d_PA_tabWidth_94 (v := ((p_step (max (x) (la)) stp - x) - ((wd).tdiv (2)))) rfl ?_
          refine lv_istore (lv' := [(7, .int (iI (((p_step (max (x) (la)) stp - x) - ((wd).tdiv (2)))))), (6, .int (iI (M (32 + 4 * i) (ow)))), (5, .int (iI (p_step (max (x) (la)) stp))), (4, .int (iI (((ow : Nat) : Int)))), (0, .ref (ad (29 + 4 * i))), (1, .int (iI (x))), (2, .int (iI (wd))), (3, .int (iI (stp)))]) hx hb d_PA_tabWidth_95 hl (by decide) rfl (fun ls hl => ?_)
          refine z_iconst hx hb (z := 0) d_PA_tabWidth_97 ?_
          refine lv_iload hx hb d_PA_tabWidth_98 (lv_at hl 0 rfl) ?_
          refine z_mmax hx hb (hml.trans hl.1.symm) hown (hg _ (List.mem_append_right _ (List.mem_append_right _ (List.mem_append_right _ (List.mem_append_right _ (List.mem_append_right _ (List.mem_append_right _ (List.mem_append_left _ (List.mem_of_getElem? (i := 22) rfl))))))))) (hg _ (List.mem_append_right _ (List.mem_append_right _ (List.mem_append_right _ (List.mem_append_right _ (List.mem_append_right _ (List.mem_append_left _ (List.mem_of_getElem? (i := 28) rfl)))))))) (hg _ (List.mem_append_right _ (List.mem_append_left _ (List.mem_of_getElem? (i := 17) rfl)))) (hg _ (List.mem_append_right _ (List.mem_append_right _ (List.mem_append_right _ (List.mem_append_right _ (List.mem_append_right _ (List.mem_append_left _ (List.mem_of_getElem? (i := 29) rfl)))))))) (Nat.le_of_ble_eq_true rfl) (Nat.le_of_ble_eq_true rfl) (Nat.zero_le _) (Nat.zero_le _) ⟨by decide, by decide⟩ ⟨by omega, by omega⟩ d_PA_tabWidth_100 (v := max (0) (((p_step (max (x) (la)) stp - x) - ((wd).tdiv (2))))) rfl ?_
          exact W.iret (v := iI (max (0) (((p_step (max (x) (la)) stp - x) - ((wd).tdiv (2)))))) hx hb hr (fun t ht hW => ⟨_, rfl, by unfold p_tab p_at p_knd; rw [← how, ← hla, ← hps]; repeat' (first | rfl | (exfalso; omega) | split), ht⟩) (fun q h => by cases h) d_PA_tabWidth_103
      · refine lv_iload hx hb d_PA_tabWidth_74 (lv_at hl 0 rfl) ?_
        refine lv_iload_n hx hb d_PA_tabWidth_76 rfl (lv_at hl 6 rfl) ?_
        refine z_isub hx hb d_PA_tabWidth_77 (v := ((p_step (max (x) (la)) stp - x) - wd)) rfl ?_
        refine lv_istore (lv' := [(7, .int (iI (((p_step (max (x) (la)) stp - x) - wd)))), (6, .int (iI (M (32 + 4 * i) (ow)))), (5, .int (iI (p_step (max (x) (la)) stp))), (4, .int (iI (((ow : Nat) : Int)))), (0, .ref (ad (29 + 4 * i))), (1, .int (iI (x))), (2, .int (iI (wd))), (3, .int (iI (stp)))]) hx hb d_PA_tabWidth_78 hl (by decide) rfl (fun ls hl => ?_)
        refine lv_goto (tgt := 97) hx hb d_PA_tabWidth_80 (by decide) ?_
        refine z_iconst hx hb (z := 0) d_PA_tabWidth_97 ?_
        refine lv_iload hx hb d_PA_tabWidth_98 (lv_at hl 0 rfl) ?_
        refine z_mmax hx hb (hml.trans hl.1.symm) hown (hg _ (List.mem_append_right _ (List.mem_append_right _ (List.mem_append_right _ (List.mem_append_right _ (List.mem_append_right _ (List.mem_append_right _ (List.mem_append_left _ (List.mem_of_getElem? (i := 22) rfl))))))))) (hg _ (List.mem_append_right _ (List.mem_append_right _ (List.mem_append_right _ (List.mem_append_right _ (List.mem_append_right _ (List.mem_append_left _ (List.mem_of_getElem? (i := 28) rfl)))))))) (hg _ (List.mem_append_right _ (List.mem_append_left _ (List.mem_of_getElem? (i := 17) rfl)))) (hg _ (List.mem_append_right _ (List.mem_append_right _ (List.mem_append_right _ (List.mem_append_right _ (List.mem_append_right _ (List.mem_append_left _ (List.mem_of_getElem? (i := 29) rfl)))))))) (Nat.le_of_ble_eq_true rfl) (Nat.le_of_ble_eq_true rfl) (Nat.zero_le _) (Nat.zero_le _) ⟨by decide, by decide⟩ ⟨by omega, by omega⟩ d_PA_tabWidth_100 (v := max (0) (((p_step (max (x) (la)) stp - x) - wd))) rfl ?_
        exact W.iret (v := iI (max (0) (((p_step (max (x) (la)) stp - x) - wd)))) hx hb hr (fun t ht hW => ⟨_, rfl, by unfold p_tab p_at p_knd; rw [← how, ← hla, ← hps]; repeat' (first | rfl | (exfalso; omega) | split), ht⟩) (fun q h => by cases h) d_PA_tabWidth_103
  · refine lv_aload_n hx hb d_PA_tabWidth_16 rfl (lv_at hl 1 rfl) ?_
    refine z_get (ci := 6) (C := R_PA) (T := T_PA) (N := 6) (v := .ref (ad (31 + 4 * i))) hx hb hg in_PA hown hK hP (29 + 4 * i) (by omega) (pg_par _ _ _ _ _) rfl 1 (by decide) (hg _ (List.mem_append_right _ (List.mem_append_right _ (List.mem_append_left _ (List.mem_of_getElem? (i := 1) rfl))))) (fun _ h9 => h9) rfl d_PA_tabWidth_17 ?_
    refine lv_iload hx hb d_PA_tabWidth_20 (lv_at hl 0 rfl) ?_
    refine z_iald hx hb hK hP (31 + 4 * i) 0 (by omega) (fun r => pg_plc _ _ _ _ r) rfl (ow) rfl (by omega) (by decide) d_PA_tabWidth_22 ?_
    refine lv_goto (tgt := 38) hx hb d_PA_tabWidth_23 (by decide) ?_
    refine lv_istore (lv' := [(5, .int (iI (M (31 + 4 * i) (ow)))), (4, .int (iI (((ow : Nat) : Int)))), (0, .ref (ad (29 + 4 * i))), (1, .int (iI (x))), (2, .int (iI (wd))), (3, .int (iI (stp)))]) hx hb d_PA_tabWidth_38 hl (by decide) rfl (fun ls hl => ?_)
    refine lv_iload hx hb d_PA_tabWidth_40 (lv_at hl 1 rfl) ?_
    refine lv_aload_n hx hb d_PA_tabWidth_42 rfl (lv_at hl 2 rfl) ?_
    refine z_get (ci := 6) (C := R_PA) (T := T_PA) (N := 6) (v := .int (iI (M (29 + 4 * i) 3))) hx hb hg in_PA hown hK hP (29 + 4 * i) (by omega) (pg_par _ _ _ _ _) rfl 3 (by decide) (hg _ (List.mem_append_right _ (List.mem_append_right _ (List.mem_append_left _ (List.mem_of_getElem? (i := 3) rfl))))) (fun _ h9 => h9) rfl d_PA_tabWidth_43 ?_
    refine z_icmp_ge hx hb (tgt := 59) d_PA_tabWidth_46 (by decide) ⟨by omega, by omega⟩ ⟨by omega, by omega⟩ (fun c_46 => ?_) (fun c_46 => ?_)
    · refine z_iconst hx hb (z := 0) d_PA_tabWidth_59 ?_
      refine lv_istore (lv' := [(6, .int (iI (0))), (5, .int (iI (M (31 + 4 * i) (ow)))), (4, .int (iI (((ow : Nat) : Int)))), (0, .ref (ad (29 + 4 * i))), (1, .int (iI (x))), (2, .int (iI (wd))), (3, .int (iI (stp)))]) hx hb d_PA_tabWidth_60 hl (by decide) rfl (fun ls hl => ?_)
      refine lv_iload hx hb d_PA_tabWidth_62 (lv_at hl 1 rfl) ?_
      refine lv_iload_n hx hb d_PA_tabWidth_64 rfl (lv_at hl 4 rfl) ?_
      refine z_isub hx hb d_PA_tabWidth_65 (v := (M (31 + 4 * i) (ow) - x)) rfl ?_
      refine lv_istore (lv' := [(7, .int (iI ((M (31 + 4 * i) (ow) - x)))), (6, .int (iI (0))), (5, .int (iI (M (31 + 4 * i) (ow)))), (4, .int (iI (((ow : Nat) : Int)))), (0, .ref (ad (29 + 4 * i))), (1, .int (iI (x))), (2, .int (iI (wd))), (3, .int (iI (stp)))]) hx hb d_PA_tabWidth_66 hl (by decide) rfl (fun ls hl => ?_)
      refine lv_iload hx hb d_PA_tabWidth_68 (lv_at hl 1 rfl) ?_
      refine z_iconst hx hb (z := 1) d_PA_tabWidth_70 ?_
      refine z_icmp_ne hx hb (tgt := 83) d_PA_tabWidth_71 (by decide) (by first | exact hko | exact ⟨by omega, by omega⟩) ⟨by decide, by decide⟩ (fun c_71 => ?_) (fun c_71 => ?_)
      · refine lv_iload hx hb d_PA_tabWidth_83 (lv_at hl 1 rfl) ?_
        refine z_iconst hx hb (z := 2) d_PA_tabWidth_85 ?_
        refine z_icmp_ne hx hb (tgt := 97) d_PA_tabWidth_86 (by decide) (by first | exact hko | exact ⟨by omega, by omega⟩) ⟨by decide, by decide⟩ (fun c_86 => ?_) (fun c_86 => ?_)
        · refine z_iconst hx hb (z := 0) d_PA_tabWidth_97 ?_
          refine lv_iload hx hb d_PA_tabWidth_98 (lv_at hl 0 rfl) ?_
          refine z_mmax hx hb (hml.trans hl.1.symm) hown (hg _ (List.mem_append_right _ (List.mem_append_right _ (List.mem_append_right _ (List.mem_append_right _ (List.mem_append_right _ (List.mem_append_right _ (List.mem_append_left _ (List.mem_of_getElem? (i := 22) rfl))))))))) (hg _ (List.mem_append_right _ (List.mem_append_right _ (List.mem_append_right _ (List.mem_append_right _ (List.mem_append_right _ (List.mem_append_left _ (List.mem_of_getElem? (i := 28) rfl)))))))) (hg _ (List.mem_append_right _ (List.mem_append_left _ (List.mem_of_getElem? (i := 17) rfl)))) (hg _ (List.mem_append_right _ (List.mem_append_right _ (List.mem_append_right _ (List.mem_append_right _ (List.mem_append_right _ (List.mem_append_left _ (List.mem_of_getElem? (i := 29) rfl)))))))) (Nat.le_of_ble_eq_true rfl) (Nat.le_of_ble_eq_true rfl) (Nat.zero_le _) (Nat.zero_le _) ⟨by decide, by decide⟩ ⟨by omega, by omega⟩ d_PA_tabWidth_100 (v := max (0) ((M (31 + 4 * i) (ow) - x))) rfl ?_
          exact W.iret (v := iI (max (0) ((M (31 + 4 * i) (ow) - x)))) hx hb hr (fun t ht hW => ⟨_, rfl, by unfold p_tab p_at p_knd; rw [← how, ← hla, ← hps]; repeat' (first | rfl | (exfalso; omega) | split), ht⟩) (fun q h => by cases h) d_PA_tabWidth_103
        · refine lv_iload hx hb d_PA_tabWidth_89 (lv_at hl 0 rfl) ?_
          refine lv_iload_n hx hb d_PA_tabWidth_91 rfl (lv_at hl 6 rfl) ?_
          refine z_iconst hx hb (z := 2) d_PA_tabWidth_92 ?_
          refine z_idiv hx hb d_PA_tabWidth_93 ⟨by omega, by omega⟩ ⟨by decide, by decide⟩ (by omega) (v := ((wd).tdiv (2))) rfl ?_
          refine z_isub hx hb d_PA_tabWidth_94 (v := ((M (31 + 4 * i) (ow) - x) - ((wd).tdiv (2)))) rfl ?_
          refine lv_istore (lv' := [(7, .int (iI (((M (31 + 4 * i) (ow) - x) - ((wd).tdiv (2)))))), (6, .int (iI (0))), (5, .int (iI (M (31 + 4 * i) (ow)))), (4, .int (iI (((ow : Nat) : Int)))), (0, .ref (ad (29 + 4 * i))), (1, .int (iI (x))), (2, .int (iI (wd))), (3, .int (iI (stp)))]) hx hb d_PA_tabWidth_95 hl (by decide) rfl (fun ls hl => ?_)
          refine z_iconst hx hb (z := 0) d_PA_tabWidth_97 ?_
          refine lv_iload hx hb d_PA_tabWidth_98 (lv_at hl 0 rfl) ?_
          refine z_mmax hx hb (hml.trans hl.1.symm) hown (hg _ (List.mem_append_right _ (List.mem_append_right _ (List.mem_append_right _ (List.mem_append_right _ (List.mem_append_right _ (List.mem_append_right _ (List.mem_append_left _ (List.mem_of_getElem? (i := 22) rfl))))))))) (hg _ (List.mem_append_right _ (List.mem_append_right _ (List.mem_append_right _ (List.mem_append_right _ (List.mem_append_right _ (List.mem_append_left _ (List.mem_of_getElem? (i := 28) rfl)))))))) (hg _ (List.mem_append_right _ (List.mem_append_left _ (List.mem_of_getElem? (i := 17) rfl)))) (hg _ (List.mem_append_right _ (List.mem_append_right _ (List.mem_append_right _ (List.mem_append_right _ (List.mem_append_right _ (List.mem_append_left _ (List.mem_of_getElem? (i := 29) rfl)))))))) (Nat.le_of_ble_eq_true rfl) (Nat.le_of_ble_eq_true rfl) (Nat.zero_le _) (Nat.zero_le _) ⟨by decide, by decide⟩ ⟨by omega, by omega⟩ d_PA_tabWidth_100 (v := max (0) (((M (31 + 4 * i) (ow) - x) - ((wd).tdiv (2))))) rfl ?_
          exact W.iret (v := iI (max (0) (((M (31 + 4 * i) (ow) - x) - ((wd).tdiv (2)))))) hx hb hr (fun t ht hW => ⟨_, rfl, by unfold p_tab p_at p_knd; rw [← how, ← hla, ← hps]; repeat' (first | rfl | (exfalso; omega) | split), ht⟩) (fun q h => by cases h) d_PA_tabWidth_103
      · refine lv_iload hx hb d_PA_tabWidth_74 (lv_at hl 0 rfl) ?_
        refine lv_iload_n hx hb d_PA_tabWidth_76 rfl (lv_at hl 6 rfl) ?_
        refine z_isub hx hb d_PA_tabWidth_77 (v := ((M (31 + 4 * i) (ow) - x) - wd)) rfl ?_
        refine lv_istore (lv' := [(7, .int (iI (((M (31 + 4 * i) (ow) - x) - wd)))), (6, .int (iI (0))), (5, .int (iI (M (31 + 4 * i) (ow)))), (4, .int (iI (((ow : Nat) : Int)))), (0, .ref (ad (29 + 4 * i))), (1, .int (iI (x))), (2, .int (iI (wd))), (3, .int (iI (stp)))]) hx hb d_PA_tabWidth_78 hl (by decide) rfl (fun ls hl => ?_)
        refine lv_goto (tgt := 97) hx hb d_PA_tabWidth_80 (by decide) ?_
        refine z_iconst hx hb (z := 0) d_PA_tabWidth_97 ?_
        refine lv_iload hx hb d_PA_tabWidth_98 (lv_at hl 0 rfl) ?_
        refine z_mmax hx hb (hml.trans hl.1.symm) hown (hg _ (List.mem_append_right _ (List.mem_append_right _ (List.mem_append_right _ (List.mem_append_right _ (List.mem_append_right _ (List.mem_append_right _ (List.mem_append_left _ (List.mem_of_getElem? (i := 22) rfl))))))))) (hg _ (List.mem_append_right _ (List.mem_append_right _ (List.mem_append_right _ (List.mem_append_right _ (List.mem_append_right _ (List.mem_append_left _ (List.mem_of_getElem? (i := 28) rfl)))))))) (hg _ (List.mem_append_right _ (List.mem_append_left _ (List.mem_of_getElem? (i := 17) rfl)))) (hg _ (List.mem_append_right _ (List.mem_append_right _ (List.mem_append_right _ (List.mem_append_right _ (List.mem_append_right _ (List.mem_append_left _ (List.mem_of_getElem? (i := 29) rfl)))))))) (Nat.le_of_ble_eq_true rfl) (Nat.le_of_ble_eq_true rfl) (Nat.zero_le _) (Nat.zero_le _) ⟨by decide, by decide⟩ ⟨by omega, by omega⟩ d_PA_tabWidth_100 (v := max (0) (((M (31 + 4 * i) (ow) - x) - wd))) rfl ?_
        exact W.iret (v := iI (max (0) (((M (31 + 4 * i) (ow) - x) - wd)))) hx hb hr (fun t ht hW => ⟨_, rfl, by unfold p_tab p_at p_knd; rw [← how, ← hla, ← hps]; repeat' (first | rfl | (exfalso; omega) | split), ht⟩) (fun q h => by cases h) d_PA_tabWidth_103
    · refine lv_aload_n hx hb d_PA_tabWidth_49 rfl (lv_at hl 2 rfl) ?_
      refine z_get (ci := 6) (C := R_PA) (T := T_PA) (N := 6) (v := .ref (ad (32 + 4 * i))) hx hb hg in_PA hown hK hP (29 + 4 * i) (by omega) (pg_par _ _ _ _ _) rfl 2 (by decide) (hg _ (List.mem_append_right _ (List.mem_append_right _ (List.mem_append_left _ (List.mem_of_getElem? (i := 2) rfl))))) (fun _ h9 => h9) rfl d_PA_tabWidth_50 ?_
      refine lv_iload hx hb d_PA_tabWidth_53 (lv_at hl 1 rfl) ?_
      refine z_iald hx hb hK hP (32 + 4 * i) 0 (by omega) (fun r => pg_knd _ _ _ _ r) rfl (ow) rfl (by omega) (by decide) d_PA_tabWidth_55 ?_
      refine lv_goto (tgt := 60) hx hb d_PA_tabWidth_56 (by decide) ?_
      refine lv_istore (lv' := [(6, .int (iI (M (32 + 4 * i) (ow)))), (5, .int (iI (M (31 + 4 * i) (ow)))), (4, .int (iI (((ow : Nat) : Int)))), (0, .ref (ad (29 + 4 * i))), (1, .int (iI (x))), (2, .int (iI (wd))), (3, .int (iI (stp)))]) hx hb d_PA_tabWidth_60 hl (by decide) rfl (fun ls hl => ?_)
      refine lv_iload hx hb d_PA_tabWidth_62 (lv_at hl 1 rfl) ?_
      refine lv_iload_n hx hb d_PA_tabWidth_64 rfl (lv_at hl 4 rfl) ?_
      refine z_isub hx hb d_PA_tabWidth_65 (v := (M (31 + 4 * i) (ow) - x)) rfl ?_
      refine lv_istore (lv' := [(7, .int (iI ((M (31 + 4 * i) (ow) - x)))), (6, .int (iI (M (32 + 4 * i) (ow)))), (5, .int (iI (M (31 + 4 * i) (ow)))), (4, .int (iI (((ow : Nat) : Int)))), (0, .ref (ad (29 + 4 * i))), (1, .int (iI (x))), (2, .int (iI (wd))), (3, .int (iI (stp)))]) hx hb d_PA_tabWidth_66 hl (by decide) rfl (fun ls hl => ?_)
      refine lv_iload hx hb d_PA_tabWidth_68 (lv_at hl 1 rfl) ?_
      refine z_iconst hx hb (z := 1) d_PA_tabWidth_70 ?_
      refine z_icmp_ne hx hb (tgt := 83) d_PA_tabWidth_71 (by decide) (by first | exact hko | exact ⟨by omega, by omega⟩) ⟨by decide, by decide⟩ (fun c_71 => ?_) (fun c_71 => ?_)
      · refine lv_iload hx hb d_PA_tabWidth_83 (lv_at hl 1 rfl) ?_
        refine z_iconst hx hb (z := 2) d_PA_tabWidth_85 ?_
        refine z_icmp_ne hx hb (tgt := 97) d_PA_tabWidth_86 (by decide) (by first | exact hko | exact ⟨by omega, by omega⟩) ⟨by decide, by decide⟩ (fun c_86 => ?_) (fun c_86 => ?_)
        · refine z_iconst hx hb (z := 0) d_PA_tabWidth_97 ?_
          refine lv_iload hx hb d_PA_tabWidth_98 (lv_at hl 0 rfl) ?_
          refine z_mmax hx hb (hml.trans hl.1.symm) hown (hg _ (List.mem_append_right _ (List.mem_append_right _ (List.mem_append_right _ (List.mem_append_right _ (List.mem_append_right _ (List.mem_append_right _ (List.mem_append_left _ (List.mem_of_getElem? (i := 22) rfl))))))))) (hg _ (List.mem_append_right _ (List.mem_append_right _ (List.mem_append_right _ (List.mem_append_right _ (List.mem_append_right _ (List.mem_append_left _ (List.mem_of_getElem? (i := 28) rfl)))))))) (hg _ (List.mem_append_right _ (List.mem_append_left _ (List.mem_of_getElem? (i := 17) rfl)))) (hg _ (List.mem_append_right _ (List.mem_append_right _ (List.mem_append_right _ (List.mem_append_right _ (List.mem_append_right _ (List.mem_append_left _ (List.mem_of_getElem? (i := 29) rfl)))))))) (Nat.le_of_ble_eq_true rfl) (Nat.le_of_ble_eq_true rfl) (Nat.zero_le _) (Nat.zero_le _) ⟨by decide, by decide⟩ ⟨by omega, by omega⟩ d_PA_tabWidth_100 (v := max (0) ((M (31 + 4 * i) (ow) - x))) rfl ?_
          exact W.iret (v := iI (max (0) ((M (31 + 4 * i) (ow) - x)))) hx hb hr (fun t ht hW => ⟨_, rfl, by unfold p_tab p_at p_knd; rw [← how, ← hla, ← hps]; repeat' (first | rfl | (exfalso; omega) | split), ht⟩) (fun q h => by cases h) d_PA_tabWidth_103
        · refine lv_iload hx hb d_PA_tabWidth_89 (lv_at hl 0 rfl) ?_
          refine lv_iload_n hx hb d_PA_tabWidth_91 rfl (lv_at hl 6 rfl) ?_
          refine z_iconst hx hb (z := 2) d_PA_tabWidth_92 ?_
          refine z_idiv hx hb d_PA_tabWidth_93 ⟨by omega, by omega⟩ ⟨by decide, by decide⟩ (by omega) (v := ((wd).tdiv (2))) rfl ?_
          refine z_isub hx hb d_PA_tabWidth_94 (v := ((M (31 + 4 * i) (ow) - x) - ((wd).tdiv (2)))) rfl ?_
          refine lv_istore (lv' := [(7, .int (iI (((M (31 + 4 * i) (ow) - x) - ((wd).tdiv (2)))))), (6, .int (iI (M (32 + 4 * i) (ow)))), (5, .int (iI (M (31 + 4 * i) (ow)))), (4, .int (iI (((ow : Nat) : Int)))), (0, .ref (ad (29 + 4 * i))), (1, .int (iI (x))), (2, .int (iI (wd))), (3, .int (iI (stp)))]) hx hb d_PA_tabWidth_95 hl (by decide) rfl (fun ls hl => ?_)
          refine z_iconst hx hb (z := 0) d_PA_tabWidth_97 ?_
          refine lv_iload hx hb d_PA_tabWidth_98 (lv_at hl 0 rfl) ?_
          refine z_mmax hx hb (hml.trans hl.1.symm) hown (hg _ (List.mem_append_right _ (List.mem_append_right _ (List.mem_append_right _ (List.mem_append_right _ (List.mem_append_right _ (List.mem_append_right _ (List.mem_append_left _ (List.mem_of_getElem? (i := 22) rfl))))))))) (hg _ (List.mem_append_right _ (List.mem_append_right _ (List.mem_append_right _ (List.mem_append_right _ (List.mem_append_right _ (List.mem_append_left _ (List.mem_of_getElem? (i := 28) rfl)))))))) (hg _ (List.mem_append_right _ (List.mem_append_left _ (List.mem_of_getElem? (i := 17) rfl)))) (hg _ (List.mem_append_right _ (List.mem_append_right _ (List.mem_append_right _ (List.mem_append_right _ (List.mem_append_right _ (List.mem_append_left _ (List.mem_of_getElem? (i := 29) rfl)))))))) (Nat.le_of_ble_eq_true rfl) (Nat.le_of_ble_eq_true rfl) (Nat.zero_le _) (Nat.zero_le _) ⟨by decide, by decide⟩ ⟨by omega, by omega⟩ d_PA_tabWidth_100 (v := max (0) (((M (31 + 4 * i) (ow) - x) - ((wd).tdiv (2))))) rfl ?_
          exact W.iret (v := iI (max (0) (((M (31 + 4 * i) (ow) - x) - ((wd).tdiv (2)))))) hx hb hr (fun t ht hW => ⟨_, rfl, by unfold p_tab p_at p_knd; rw [← how, ← hla, ← hps]; repeat' (first | rfl | (exfalso; omega) | split), ht⟩) (fun q h => by cases h) d_PA_tabWidth_103
      · refine lv_iload hx hb d_PA_tabWidth_74 (lv_at hl 0 rfl) ?_
        refine lv_iload_n hx hb d_PA_tabWidth_76 rfl (lv_at hl 6 rfl) ?_
        refine z_isub hx hb d_PA_tabWidth_77 (v := ((M (31 + 4 * i) (ow) - x) - wd)) rfl ?_
        refine lv_istore (lv' := [(7, .int (iI (((M (31 + 4 * i) (ow) - x) - wd)))), (6, .int (iI (M (32 + 4 * i) (ow)))), (5, .int (iI (M (31 + 4 * i) (ow)))), (4, .int (iI (((ow : Nat) : Int)))), (0, .ref (ad (29 + 4 * i))), (1, .int (iI (x))), (2, .int (iI (wd))), (3, .int (iI (stp)))]) hx hb d_PA_tabWidth_78 hl (by decide) rfl (fun ls hl => ?_)
        refine lv_goto (tgt := 97) hx hb d_PA_tabWidth_80 (by decide) ?_
        refine z_iconst hx hb (z := 0) d_PA_tabWidth_97 ?_
        refine lv_iload hx hb d_PA_tabWidth_98 (lv_at hl 0 rfl) ?_
        refine z_mmax hx hb (hml.trans hl.1.symm) hown (hg _ (List.mem_append_right _ (List.mem_append_right _ (List.mem_append_right _ (List.mem_append_right _ (List.mem_append_right _ (List.mem_append_right _ (List.mem_append_left _ (List.mem_of_getElem? (i := 22) rfl))))))))) (hg _ (List.mem_append_right _ (List.mem_append_right _ (List.mem_append_right _ (List.mem_append_right _ (List.mem_append_right _ (List.mem_append_left _ (List.mem_of_getElem? (i := 28) rfl)))))))) (hg _ (List.mem_append_right _ (List.mem_append_left _ (List.mem_of_getElem? (i := 17) rfl)))) (hg _ (List.mem_append_right _ (List.mem_append_right _ (List.mem_append_right _ (List.mem_append_right _ (List.mem_append_right _ (List.mem_append_left _ (List.mem_of_getElem? (i := 29) rfl)))))))) (Nat.le_of_ble_eq_true rfl) (Nat.le_of_ble_eq_true rfl) (Nat.zero_le _) (Nat.zero_le _) ⟨by decide, by decide⟩ ⟨by omega, by omega⟩ d_PA_tabWidth_100 (v := max (0) (((M (31 + 4 * i) (ow) - x) - wd))) rfl ?_
        exact W.iret (v := iI (max (0) (((M (31 + 4 * i) (ow) - x) - wd)))) hx hb hr (fun t ht hW => ⟨_, rfl, by unfold p_tab p_at p_knd; rw [← how, ← hla, ← hps]; repeat' (first | rfl | (exfalso; omega) | split), ht⟩) (fun q h => by cases h) d_PA_tabWidth_103
set_option maxHeartbeats 4000000 in
set_option maxRecDepth 100000 in
/-- Text.endsLine -/
theorem c_endsLine (l : Launch) {D : va_G} {ad : Nat → Nat} {cs : pg_C} {rp : Option Nat} {M : Nat → Nat → Int} (k : Nat) (hk : k < 600) (hz : ∀ j, zb (M 7 j)) : Met l y_TX_endsLine ws_TX_endsLine ({ frames := 0, cells := 0, slots := 0, locals := 0 } : Room) (va_Pc [.ref (ad (1)), .int (iI (((k : Nat) : Int)))] (ro_B D vwCl (pg_tys cs) (pg_w ad cs rp M))) (vp_Si (fun r => r = iI (bz (p_endl (M 7) k) inferInstance))) 0 0 (fun _ => False) := by
  refine Met.ofW (cc := b_TX_endsLine) (maxL := 2) (ret := (some .boolean)) (by decide) rfl ?_
  intro p e s m args below meth c s₁ B hml hv
  obtain ⟨rfl, hP, hK⟩ := hv
  have hx := B.exec
  have hb := B.bytes
  have hr := B.returns
  have hts := atoms_spec (ws := ws_TX_endsLine) B.pre
  have hg : ∀ w ∈ gt, w.before _ s = true := fun w h => hts w (List.mem_cons_of_mem _ h)
  have hown : s.vm.findClass R_TX = some m.cls := findClass_of_methodNamed B.named
  have hlocks := B.notSynchronized
  have hl := lv_entry ([.ref (ad (1)), .int (iI (((k : Nat) : Int)))]) (n := 2) (Nat.le_of_ble_eq_true rfl)
  rw [lg_entry_eq]
  generalize (lg_sl ([.ref (ad (1)), .int (iI (((k : Nat) : Int)))]) ++ List.replicate (2 - (lg_sl ([.ref (ad (1)), .int (iI (((k : Nat) : Int)))])).length) Slot.unset).toArray = ls at hl ⊢
  have hl : lv_has ls 2 [(0, .ref (ad (1))), (1, .int (iI (((k : Nat) : Int))))] := hl
  refine lv_aload_n hx hb d_TX_endsLine_0 rfl (lv_at hl 0 rfl) ?_
  refine z_get (ci := 1) (C := R_TX) (T := T_TX) (N := 6) (v := .ref (ad (7))) hx hb hg in_TX hown hK hP (1) (by decide) rfl rfl 1 (by decide) (hg _ (List.mem_append_right _ (List.mem_append_right _ (List.mem_append_left _ (List.mem_of_getElem? (i := 20) rfl))))) (fun _ h9 => h9) rfl d_TX_endsLine_1 ?_
  refine lv_iload_n hx hb d_TX_endsLine_4 rfl (lv_at hl 1 rfl) ?_
  refine z_iald hx hb hK hP (7) 0 (by decide) (fun _ => rfl) rfl (k) rfl (by omega) (by decide) d_TX_endsLine_5 ?_
  refine z_iconst hx hb (z := 5) d_TX_endsLine_6 ?_
  refine z_icmp_eq hx hb (tgt := 21) d_TX_endsLine_7 (by decide) (hz _) ⟨by decide, by decide⟩ (fun c_7 => ?_) (fun c_7 => ?_)
  · refine z_iconst hx hb (z := 1) d_TX_endsLine_21 ?_
    refine lv_goto (tgt := 26) hx hb d_TX_endsLine_22 (by decide) ?_
    exact W.zret (v := iI (1)) hx hb hr (by first | rfl | decide) (fun t ht hW => ⟨_, rfl, by first | (rw [bz_t (by omega)]; done) | (rw [bz_f (by omega)]; done), ht⟩) (fun q h => by cases h) d_TX_endsLine_26
  · refine lv_aload_n hx hb d_TX_endsLine_10 rfl (lv_at hl 0 rfl) ?_
    refine z_get (ci := 1) (C := R_TX) (T := T_TX) (N := 6) (v := .ref (ad (7))) hx hb hg in_TX hown hK hP (1) (by decide) rfl rfl 1 (by decide) (hg _ (List.mem_append_right _ (List.mem_append_right _ (List.mem_append_left _ (List.mem_of_getElem? (i := 20) rfl))))) (fun _ h9 => h9) rfl d_TX_endsLine_11 ?_
    refine lv_iload_n hx hb d_TX_endsLine_14 rfl (lv_at hl 1 rfl) ?_
    refine z_iald hx hb hK hP (7) 0 (by decide) (fun _ => rfl) rfl (k) rfl (by omega) (by decide) d_TX_endsLine_15 ?_
    refine z_bipush hx hb (z := 6) d_TX_endsLine_16 (by decide) ?_
    refine z_icmp_ne hx hb (tgt := 25) d_TX_endsLine_18 (by decide) (hz _) ⟨by decide, by decide⟩ (fun c_18 => ?_) (fun c_18 => ?_)
    · refine z_iconst hx hb (z := 0) d_TX_endsLine_25 ?_
      exact W.zret (v := iI (0)) hx hb hr (by first | rfl | decide) (fun t ht hW => ⟨_, rfl, by first | (rw [bz_t (by omega)]; done) | (rw [bz_f (by omega)]; done), ht⟩) (fun q h => by cases h) d_TX_endsLine_26
    · refine z_iconst hx hb (z := 1) d_TX_endsLine_21 ?_
      refine lv_goto (tgt := 26) hx hb d_TX_endsLine_22 (by decide) ?_
      exact W.zret (v := iI (1)) hx hb hr (by first | rfl | decide) (fun t ht hW => ⟨_, rfl, by first | (rw [bz_t (by omega)]; done) | (rw [bz_f (by omega)]; done), ht⟩) (fun q h => by cases h) d_TX_endsLine_26
set_option maxHeartbeats 4000000 in
set_option maxRecDepth 100000 in
/-- Text.isBreakBehind -/
theorem c_isBreakBehind (l : Launch) {D : va_G} {ad : Nat → Nat} {cs : pg_C} {rp : Option Nat} {M : Nat → Nat → Int} (i b k : Nat) (hi : i < 30) (hk : k < 600) (hb6 : b ≤ 600) (hbe : M (29 + 4 * i) 5 = ((b : Nat) : Int)) (hz : ∀ j, zb (M 7 j)) : Met l y_TX_isBreakBehind ws_TX_isBreakBehind ({ frames := 1, cells := 0, slots := 0, locals := 21 } : Room) (va_Pc [.ref (ad (1)), .int (iI (((k : Nat) : Int))), .ref (ad (29 + 4 * i))] (ro_B D vwCl (pg_tys cs) (pg_w ad cs rp M))) (vp_Si (fun r => r = iI (bz (p_brk (M 7) b k) inferInstance))) 0 0 (fun _ => False) := by
  refine Met.ofW (cc := b_TX_isBreakBehind) (maxL := 3) (ret := (some .boolean)) (by decide) rfl ?_
  intro p e s m args below meth c s₁ B hml hv
  obtain ⟨rfl, hP, hK⟩ := hv
  have hx := B.exec
  have hb := B.bytes
  have hr := B.returns
  have hts := atoms_spec (ws := ws_TX_isBreakBehind) B.pre
  have hg : ∀ w ∈ gt, w.before _ s = true := fun w h => hts w (List.mem_cons_of_mem _ h)
  have hown : s.vm.findClass R_TX = some m.cls := findClass_of_methodNamed B.named
  have hlocks := B.notSynchronized
  have hl := lv_entry ([.ref (ad (1)), .int (iI (((k : Nat) : Int))), .ref (ad (29 + 4 * i))]) (n := 3) (Nat.le_of_ble_eq_true rfl)
  rw [lg_entry_eq]
  generalize (lg_sl ([.ref (ad (1)), .int (iI (((k : Nat) : Int))), .ref (ad (29 + 4 * i))]) ++ List.replicate (3 - (lg_sl ([.ref (ad (1)), .int (iI (((k : Nat) : Int))), .ref (ad (29 + 4 * i))])).length) Slot.unset).toArray = ls at hl ⊢
  have hl : lv_has ls 3 [(0, .ref (ad (1))), (1, .int (iI (((k : Nat) : Int)))), (2, .ref (ad (29 + 4 * i)))] := hl
  refine lv_iload_n hx hb d_TX_isBreakBehind_0 rfl (lv_at hl 1 rfl) ?_
  refine z_iconst hx hb (z := 1) d_TX_isBreakBehind_1 ?_
  refine z_iadd hx hb d_TX_isBreakBehind_2 (v := ((k + 1 : Nat) : Int)) (by omega) ?_
  refine lv_aload_n hx hb d_TX_isBreakBehind_3 rfl (lv_at hl 2 rfl) ?_
  refine z_get (ci := 6) (C := R_PA) (T := T_PA) (N := 6) (v := .int (iI (M (29 + 4 * i) 5))) hx hb hg in_PA hown hK hP (29 + 4 * i) (by omega) (pg_par _ _ _ _ _) rfl 5 (by decide) (hg _ (List.mem_append_right _ (List.mem_append_right _ (List.mem_append_left _ (List.mem_of_getElem? (i := 9) rfl))))) (fun _ h9 => h9) rfl d_TX_isBreakBehind_4 ?_
  refine z_icmp_ge hx hb (tgt := 22) d_TX_isBreakBehind_7 (by decide) ⟨by omega, by omega⟩ ⟨by omega, by omega⟩ (fun c_7 => ?_) (fun c_7 => ?_)
  · refine z_iconst hx hb (z := 1) d_TX_isBreakBehind_22 ?_
    exact W.zret (v := iI (1)) hx hb hr (by first | rfl | decide) (fun t ht hW => ⟨_, rfl, by first | (rw [bz_t (by omega)]; done) | (rw [bz_f (by omega)]; done), ht⟩) (fun q h => by cases h) d_TX_isBreakBehind_23
  · refine lv_aload_n hx hb d_TX_isBreakBehind_10 rfl (lv_at hl 0 rfl) ?_
    refine z_get (ci := 1) (C := R_TX) (T := T_TX) (N := 6) (v := .ref (ad (7))) hx hb hg in_TX hown hK hP (1) (by decide) rfl rfl 1 (by decide) (hg _ (List.mem_append_right _ (List.mem_append_right _ (List.mem_append_left _ (List.mem_of_getElem? (i := 20) rfl))))) (fun _ h9 => h9) rfl d_TX_isBreakBehind_11 ?_
    refine lv_iload_n hx hb d_TX_isBreakBehind_14 rfl (lv_at hl 1 rfl) ?_
    refine z_iconst hx hb (z := 1) d_TX_isBreakBehind_15 ?_
    refine z_iadd hx hb d_TX_isBreakBehind_16 (v := ((k + 1 : Nat) : Int)) (by omega) ?_
    refine z_iald hx hb hK hP (7) 0 (by decide) (fun _ => rfl) rfl (k + 1) rfl (by omega) (by decide) d_TX_isBreakBehind_17 ?_
    refine z_iconst hx hb (z := 2) d_TX_isBreakBehind_18 ?_
    refine z_icmp_ne hx hb (tgt := 24) d_TX_isBreakBehind_19 (by decide) (hz _) ⟨by decide, by decide⟩ (fun c_19 => ?_) (fun c_19 => ?_)
    · refine lv_aload_n hx hb d_TX_isBreakBehind_24 rfl (lv_at hl 0 rfl) ?_
      refine z_get (ci := 1) (C := R_TX) (T := T_TX) (N := 6) (v := .ref (ad (7))) hx hb hg in_TX hown hK hP (1) (by decide) rfl rfl 1 (by decide) (hg _ (List.mem_append_right _ (List.mem_append_right _ (List.mem_append_left _ (List.mem_of_getElem? (i := 20) rfl))))) (fun _ h9 => h9) rfl d_TX_isBreakBehind_25 ?_
      refine lv_iload_n hx hb d_TX_isBreakBehind_28 rfl (lv_at hl 1 rfl) ?_
      refine z_iald hx hb hK hP (7) 0 (by decide) (fun _ => rfl) rfl (k) rfl (by omega) (by decide) d_TX_isBreakBehind_29 ?_
      refine z_iconst hx hb (z := 1) d_TX_isBreakBehind_30 ?_
      refine z_icmp_eq hx hb (tgt := 62) d_TX_isBreakBehind_31 (by decide) (hz _) ⟨by decide, by decide⟩ (fun c_31 => ?_) (fun c_31 => ?_)
      · refine z_iconst hx hb (z := 1) d_TX_isBreakBehind_62 ?_
        refine lv_goto (tgt := 67) hx hb d_TX_isBreakBehind_63 (by decide) ?_
        exact W.zret (v := iI (1)) hx hb hr (by first | rfl | decide) (fun t ht hW => ⟨_, rfl, by first | (rw [bz_t (by omega)]; done) | (rw [bz_f (by omega)]; done), ht⟩) (fun q h => by cases h) d_TX_isBreakBehind_67
      · refine lv_aload_n hx hb d_TX_isBreakBehind_34 rfl (lv_at hl 0 rfl) ?_
        refine z_get (ci := 1) (C := R_TX) (T := T_TX) (N := 6) (v := .ref (ad (7))) hx hb hg in_TX hown hK hP (1) (by decide) rfl rfl 1 (by decide) (hg _ (List.mem_append_right _ (List.mem_append_right _ (List.mem_append_left _ (List.mem_of_getElem? (i := 20) rfl))))) (fun _ h9 => h9) rfl d_TX_isBreakBehind_35 ?_
        refine lv_iload_n hx hb d_TX_isBreakBehind_38 rfl (lv_at hl 1 rfl) ?_
        refine z_iald hx hb hK hP (7) 0 (by decide) (fun _ => rfl) rfl (k) rfl (by omega) (by decide) d_TX_isBreakBehind_39 ?_
        refine z_iconst hx hb (z := 3) d_TX_isBreakBehind_40 ?_
        refine z_icmp_eq hx hb (tgt := 62) d_TX_isBreakBehind_41 (by decide) (hz _) ⟨by decide, by decide⟩ (fun c_41 => ?_) (fun c_41 => ?_)
        · refine z_iconst hx hb (z := 1) d_TX_isBreakBehind_62 ?_
          refine lv_goto (tgt := 67) hx hb d_TX_isBreakBehind_63 (by decide) ?_
          exact W.zret (v := iI (1)) hx hb hr (by first | rfl | decide) (fun t ht hW => ⟨_, rfl, by first | (rw [bz_t (by omega)]; done) | (rw [bz_f (by omega)]; done), ht⟩) (fun q h => by cases h) d_TX_isBreakBehind_67
        · refine lv_aload_n hx hb d_TX_isBreakBehind_44 rfl (lv_at hl 0 rfl) ?_
          refine z_get (ci := 1) (C := R_TX) (T := T_TX) (N := 6) (v := .ref (ad (7))) hx hb hg in_TX hown hK hP (1) (by decide) rfl rfl 1 (by decide) (hg _ (List.mem_append_right _ (List.mem_append_right _ (List.mem_append_left _ (List.mem_of_getElem? (i := 20) rfl))))) (fun _ h9 => h9) rfl d_TX_isBreakBehind_45 ?_
          refine lv_iload_n hx hb d_TX_isBreakBehind_48 rfl (lv_at hl 1 rfl) ?_
          refine z_iald hx hb hK hP (7) 0 (by decide) (fun _ => rfl) rfl (k) rfl (by omega) (by decide) d_TX_isBreakBehind_49 ?_
          refine z_iconst hx hb (z := 4) d_TX_isBreakBehind_50 ?_
          refine z_icmp_eq hx hb (tgt := 62) d_TX_isBreakBehind_51 (by decide) (hz _) ⟨by decide, by decide⟩ (fun c_51 => ?_) (fun c_51 => ?_)
          · refine z_iconst hx hb (z := 1) d_TX_isBreakBehind_62 ?_
            refine lv_goto (tgt := 67) hx hb d_TX_isBreakBehind_63 (by decide) ?_
            exact W.zret (v := iI (1)) hx hb hr (by first | rfl | decide) (fun t ht hW => ⟨_, rfl, by first | (rw [bz_t (by omega)]; done) | (rw [bz_f (by omega)]; done), ht⟩) (fun q h => by cases h) d_TX_isBreakBehind_67
          · refine lv_aload_n hx hb d_TX_isBreakBehind_54 rfl (lv_at hl 0 rfl) ?_
            refine lv_iload_n hx hb d_TX_isBreakBehind_55 rfl (lv_at hl 1 rfl) ?_
            refine ro_V (As := [.int (iI (((k : Nat) : Int)))]) (rest := []) (z := bz (p_endl (M 7) (k)) inferInstance) ⟨hx, hb, hml, hown, hg⟩ (c_endsLine l (k) (by omega) hz) (cwV 1 hg (gt_V (List.mem_append_right _ (List.mem_append_right _ (List.mem_append_right _ (List.mem_append_right _ (List.mem_append_right _ (List.mem_append_left _ (List.mem_of_getElem? (i := 37) rfl))))))) (List.mem_append_right _ (List.mem_append_right _ (List.mem_append_right _ (List.mem_append_right _ (List.mem_append_right _ (List.mem_append_left _ (List.mem_of_getElem? (i := 38) rfl))))))) (List.mem_append_right _ (List.mem_append_right _ (List.mem_append_right _ (List.mem_append_right _ (List.mem_append_right _ (List.mem_append_left _ (List.mem_of_getElem? (i := 39) rfl))))))) (List.mem_append_right _ (List.mem_append_left _ (List.mem_of_getElem? (i := 3) rfl))) (List.mem_append_right _ (List.mem_append_right _ (List.mem_append_right _ (List.mem_append_right _ (List.mem_append_right _ (List.mem_append_right _ (List.mem_append_left _ (List.mem_of_getElem? (i := 0) rfl))))))))) rfl rfl rfl (by decide +kernel) ⟨Nat.le_of_ble_eq_true rfl, Nat.le_of_ble_eq_true rfl⟩) hK hP (va_recv hK hP (ci := 1) (q0 := 1) rfl (wl_atE (by decide) rfl)) rfl hl.1 rfl (Nat.le_of_ble_eq_true rfl) d_TX_isBreakBehind_56 ⟨Nat.zero_le _, Nat.zero_le _⟩ ?_
            refine z_ifb_eq hx hb (tgt := 66) d_TX_isBreakBehind_59 (by decide) (fun c_59 => ?_) (fun c_59 => ?_)
            · refine z_iconst hx hb (z := 0) d_TX_isBreakBehind_66 ?_
              exact W.zret (v := iI (0)) hx hb hr (by first | rfl | decide) (fun t ht hW => ⟨_, rfl, by first | (rw [bz_t (by omega)]; done) | (rw [bz_f (by omega)]; done), ht⟩) (fun q h => by cases h) d_TX_isBreakBehind_67
            · refine z_iconst hx hb (z := 1) d_TX_isBreakBehind_62 ?_
              refine lv_goto (tgt := 67) hx hb d_TX_isBreakBehind_63 (by decide) ?_
              exact W.zret (v := iI (1)) hx hb hr (by first | rfl | decide) (fun t ht hW => ⟨_, rfl, by first | (rw [bz_t (by omega)]; done) | (rw [bz_f (by omega)]; done), ht⟩) (fun q h => by cases h) d_TX_isBreakBehind_67
    · refine z_iconst hx hb (z := 1) d_TX_isBreakBehind_22 ?_
      exact W.zret (v := iI (1)) hx hb hr (by first | rfl | decide) (fun t ht hW => ⟨_, rfl, by first | (rw [bz_t (by omega)]; done) | (rw [bz_f (by omega)]; done), ht⟩) (fun q h => by cases h) d_TX_isBreakBehind_23
set_option maxHeartbeats 4000000 in
set_option maxRecDepth 100000 in
/-- Text.widthWithin -/
theorem c_widthWithin (l : Launch) {D : va_G} {ad : Nat → Nat} {cs : pg_C} {rp : Option Nat} {M : Nat → Nat → Int} (k : Nat) (la : Bool) (hk : k < 600) (hz : ∀ j, zb (M 7 j)) : Met l y_TX_widthWithin ws_TX_widthWithin ({ frames := 1, cells := 0, slots := 0, locals := 21 } : Room) (va_Pc [.ref (ad (1)), .int (iI (((k : Nat) : Int))), .int (iI (bz (la = true) inferInstance))] (ro_B D vwCl (pg_tys cs) (pg_w ad cs rp M))) (vp_Si (fun r => r = iI (p_wid (M 7) (M 8) k la))) 0 0 (fun _ => False) := by
  refine Met.ofW (cc := b_TX_widthWithin) (maxL := 3) (ret := (some .int)) (by decide) rfl ?_
  intro p e s m args below meth c s₁ B hml hv
  obtain ⟨rfl, hP, hK⟩ := hv
  have hx := B.exec
  have hb := B.bytes
  have hr := B.returns
  have hts := atoms_spec (ws := ws_TX_widthWithin) B.pre
  have hg : ∀ w ∈ gt, w.before _ s = true := fun w h => hts w (List.mem_cons_of_mem _ h)
  have hown : s.vm.findClass R_TX = some m.cls := findClass_of_methodNamed B.named
  have hlocks := B.notSynchronized
  have hl := lv_entry ([.ref (ad (1)), .int (iI (((k : Nat) : Int))), .int (iI (bz (la = true) inferInstance))]) (n := 3) (Nat.le_of_ble_eq_true rfl)
  rw [lg_entry_eq]
  generalize (lg_sl ([.ref (ad (1)), .int (iI (((k : Nat) : Int))), .int (iI (bz (la = true) inferInstance))]) ++ List.replicate (3 - (lg_sl ([.ref (ad (1)), .int (iI (((k : Nat) : Int))), .int (iI (bz (la = true) inferInstance))])).length) Slot.unset).toArray = ls at hl ⊢
  have hl : lv_has ls 3 [(0, .ref (ad (1))), (1, .int (iI (((k : Nat) : Int)))), (2, .int (iI (bz (la = true) inferInstance)))] := hl
  refine lv_aload_n hx hb d_TX_widthWithin_0 rfl (lv_at hl 0 rfl) ?_
  refine lv_iload_n hx hb d_TX_widthWithin_1 rfl (lv_at hl 1 rfl) ?_
  refine ro_V (As := [.int (iI (((k : Nat) : Int)))]) (rest := []) (z := bz (p_endl (M 7) (k)) inferInstance) ⟨hx, hb, hml, hown, hg⟩ (c_endsLine l (k) (by omega) hz) (cwV 1 hg (gt_V (List.mem_append_right _ (List.mem_append_right _ (List.mem_append_right _ (List.mem_append_right _ (List.mem_append_right _ (List.mem_append_left _ (List.mem_of_getElem? (i := 37) rfl))))))) (List.mem_append_right _ (List.mem_append_right _ (List.mem_append_right _ (List.mem_append_right _ (List.mem_append_right _ (List.mem_append_left _ (List.mem_of_getElem? (i := 38) rfl))))))) (List.mem_append_right _ (List.mem_append_right _ (List.mem_append_right _ (List.mem_append_right _ (List.mem_append_right _ (List.mem_append_left _ (List.mem_of_getElem? (i := 39) rfl))))))) (List.mem_append_right _ (List.mem_append_left _ (List.mem_of_getElem? (i := 3) rfl))) (List.mem_append_right _ (List.mem_append_right _ (List.mem_append_right _ (List.mem_append_right _ (List.mem_append_right _ (List.mem_append_right _ (List.mem_append_left _ (List.mem_of_getElem? (i := 0) rfl))))))))) rfl rfl rfl (by decide +kernel) ⟨Nat.le_of_ble_eq_true rfl, Nat.le_of_ble_eq_true rfl⟩) hK hP (va_recv hK hP (ci := 1) (q0 := 1) rfl (wl_atE (by decide) rfl)) rfl hl.1 rfl (Nat.le_of_ble_eq_true rfl) d_TX_widthWithin_2 ⟨Nat.zero_le _, Nat.zero_le _⟩ ?_
  refine z_ifb_ne hx hb (tgt := 22) d_TX_widthWithin_5 (by decide) (fun c_5 => ?_) (fun c_5 => ?_)
  · refine z_iconst hx hb (z := 0) d_TX_widthWithin_22 ?_
    exact W.iret (v := iI (0)) hx hb hr (fun t ht hW => ⟨_, rfl, by unfold p_wid; first | (rw [if_pos (by cases la <;> simp_all <;> omega)]; done) | (rw [if_neg (by cases la <;> simp_all <;> omega)]; done), ht⟩) (fun q h => by cases h) d_TX_widthWithin_23
  · refine lv_aload_n hx hb d_TX_widthWithin_8 rfl (lv_at hl 0 rfl) ?_
    refine z_get (ci := 1) (C := R_TX) (T := T_TX) (N := 6) (v := .ref (ad (7))) hx hb hg in_TX hown hK hP (1) (by decide) rfl rfl 1 (by decide) (hg _ (List.mem_append_right _ (List.mem_append_right _ (List.mem_append_left _ (List.mem_of_getElem? (i := 20) rfl))))) (fun _ h9 => h9) rfl d_TX_widthWithin_9 ?_
    refine lv_iload_n hx hb d_TX_widthWithin_12 rfl (lv_at hl 1 rfl) ?_
    refine z_iald hx hb hK hP (7) 0 (by decide) (fun _ => rfl) rfl (k) rfl (by omega) (by decide) d_TX_widthWithin_13 ?_
    refine z_iconst hx hb (z := 4) d_TX_widthWithin_14 ?_
    refine z_icmp_ne hx hb (tgt := 24) d_TX_widthWithin_15 (by decide) (hz _) ⟨by decide, by decide⟩ (fun c_15 => ?_) (fun c_15 => ?_)
    · refine lv_aload_n hx hb d_TX_widthWithin_24 rfl (lv_at hl 0 rfl) ?_
      refine z_get (ci := 1) (C := R_TX) (T := T_TX) (N := 6) (v := .ref (ad (8))) hx hb hg in_TX hown hK hP (1) (by decide) rfl rfl 2 (by decide) (hg _ (List.mem_append_right _ (List.mem_append_right _ (List.mem_append_left _ (List.mem_of_getElem? (i := 23) rfl))))) (fun _ h9 => h9) rfl d_TX_widthWithin_25 ?_
      refine lv_iload_n hx hb d_TX_widthWithin_28 rfl (lv_at hl 1 rfl) ?_
      refine z_iald hx hb hK hP (8) 0 (by decide) (fun _ => rfl) rfl (k) rfl (by omega) (by decide) d_TX_widthWithin_29 ?_
      exact W.iret (v := iI (M (8) (k))) hx hb hr (fun t ht hW => ⟨_, rfl, by unfold p_wid; first | (rw [if_pos (by cases la <;> simp_all <;> omega)]; done) | (rw [if_neg (by cases la <;> simp_all <;> omega)]; done), ht⟩) (fun q h => by cases h) d_TX_widthWithin_30
    · refine lv_iload_n hx hb d_TX_widthWithin_18 rfl (lv_at hl 2 rfl) ?_
      refine z_ifb_ne hx hb (tgt := 24) d_TX_widthWithin_19 (by decide) (fun c_19 => ?_) (fun c_19 => ?_)
      · refine lv_aload_n hx hb d_TX_widthWithin_24 rfl (lv_at hl 0 rfl) ?_
        refine z_get (ci := 1) (C := R_TX) (T := T_TX) (N := 6) (v := .ref (ad (8))) hx hb hg in_TX hown hK hP (1) (by decide) rfl rfl 2 (by decide) (hg _ (List.mem_append_right _ (List.mem_append_right _ (List.mem_append_left _ (List.mem_of_getElem? (i := 23) rfl))))) (fun _ h9 => h9) rfl d_TX_widthWithin_25 ?_
        refine lv_iload_n hx hb d_TX_widthWithin_28 rfl (lv_at hl 1 rfl) ?_
        refine z_iald hx hb hK hP (8) 0 (by decide) (fun _ => rfl) rfl (k) rfl (by omega) (by decide) d_TX_widthWithin_29 ?_
        exact W.iret (v := iI (M (8) (k))) hx hb hr (fun t ht hW => ⟨_, rfl, by unfold p_wid; first | (rw [if_pos (by cases la <;> simp_all <;> omega)]; done) | (rw [if_neg (by cases la <;> simp_all <;> omega)]; done), ht⟩) (fun q h => by cases h) d_TX_widthWithin_30
      · refine z_iconst hx hb (z := 0) d_TX_widthWithin_22 ?_
        exact W.iret (v := iI (0)) hx hb hr (fun t ht hW => ⟨_, rfl, by unfold p_wid; first | (rw [if_pos (by cases la <;> simp_all <;> omega)]; done) | (rw [if_neg (by cases la <;> simp_all <;> omega)]; done), ht⟩) (fun q h => by cases h) d_TX_widthWithin_23
set_option maxHeartbeats 4000000 in
set_option maxRecDepth 100000 in
theorem lp_solidBehind {p : Program} {l : Launch} {e : Env} {R : Room} {s : State} {m : MethodId} {args : Array Value} {below : List Frame} {meth : Method} {c : Code} {H : Heap} {locs : List Loc} {cells slots : Nat} {Q : State → Prop} {D : va_G} {ad : Nat → Nat} {cs : pg_C} {rp : Option Nat} {M : Nat → Nat → Int} (hx : p.tables.exec = Jvm.exec) (hb : c.code = b_TX_solidBehind) (hg : ∀ w ∈ gt, w.before args s = true) (hown : s.vm.findClass R_TX = some m.cls) (hK : va_K D vwCl (pg_tys cs) s) (hP : va_P D vwCl (pg_w ad cs rp M) H) (a b t : Nat) (ha : a ≤ 600) (hz : ∀ j, zb (M 7 j)) (kk : ∀ ls : Array Slot, lv_has ls 4 [(3, .int (iI (((t : Nat) : Int)))), (0, .ref (ad (1))), (1, .int (iI (((a : Nat) : Int)))), (2, .int (iI (((b : Nat) : Int))))] → W p l e R s m args below meth c H locs cells slots Q (F0 m 43 ls [])) : ∀ (f : Nat) (ls : Array Slot), f ≤ 600 → p_back (M 7) a f = t → lv_has ls 4 [(3, .int (iI (((f : Nat) : Int)))), (0, .ref (ad (1))), (1, .int (iI (((a : Nat) : Int)))), (2, .int (iI (((b : Nat) : Int))))] → W p l e R s m args below meth c H locs cells slots Q (F0 m 20 ls []) := by
  intro f
  induction f with
  | zero =>
    intro ls hf he hl
    refine lv_iload_n hx hb d_TX_solidBehind_20 rfl (lv_at hl 0 rfl) ?_
    refine lv_iload_n hx hb d_TX_solidBehind_21 rfl (lv_at hl 2 rfl) ?_
    refine z_icmp_le hx hb (tgt := 43) d_TX_solidBehind_22 (by decide) ⟨by omega, by omega⟩ ⟨by omega, by omega⟩ (fun c_22 => ?_) (fun c_22 => ?_)
    · have he : 0 = t := he
      subst he
      exact kk ls hl
    · exact absurd c_22 (by omega)
  | succ f ih =>
    intro ls hf he hl
    refine lv_iload_n hx hb d_TX_solidBehind_20 rfl (lv_at hl 0 rfl) ?_
    refine lv_iload_n hx hb d_TX_solidBehind_21 rfl (lv_at hl 2 rfl) ?_
    refine z_icmp_le hx hb (tgt := 43) d_TX_solidBehind_22 (by decide) ⟨by omega, by omega⟩ ⟨by omega, by omega⟩ (fun c_22 => ?_) (fun c_22 => ?_)
    · have he : f + 1 = t := by rw [← he]; unfold p_back; rw [if_neg (by omega)]
      subst he
      exact kk ls hl
    · refine lv_aload_n hx hb d_TX_solidBehind_25 rfl (lv_at hl 1 rfl) ?_
      refine z_get (ci := 1) (C := R_TX) (T := T_TX) (N := 6) (v := .ref (ad (7))) hx hb hg in_TX hown hK hP (1) (by decide) rfl rfl 1 (by decide) (hg _ (List.mem_append_right _ (List.mem_append_right _ (List.mem_append_left _ (List.mem_of_getElem? (i := 20) rfl))))) (fun _ h9 => h9) rfl d_TX_solidBehind_26 ?_
      refine lv_iload_n hx hb d_TX_solidBehind_29 rfl (lv_at hl 0 rfl) ?_
      refine z_iconst hx hb (z := 1) d_TX_solidBehind_30 ?_
      refine z_isub hx hb d_TX_solidBehind_31 (v := ((f : Nat) : Int)) (by omega) ?_
      refine z_iald hx hb hK hP (7) 0 (by decide) (fun _ => rfl) rfl (f) rfl (by omega) (by decide) d_TX_solidBehind_32 ?_
      refine z_iconst hx hb (z := 1) d_TX_solidBehind_33 ?_
      refine z_icmp_ne hx hb (tgt := 43) d_TX_solidBehind_34 (by decide) (hz _) ⟨by decide, by decide⟩ (fun c_34 => ?_) (fun c_34 => ?_)
      · have he : f + 1 = t := by rw [← he]; unfold p_back; rw [if_neg (by omega)]
        subst he
        exact kk ls hl
      · refine z_iinc (v := ((f : Nat) : Int)) (lv' := [(3, .int (iI (((f : Nat) : Int)))), (0, .ref (ad (1))), (1, .int (iI (((a : Nat) : Int)))), (2, .int (iI (((b : Nat) : Int))))]) hx hb d_TX_solidBehind_37 hl (k := 0) rfl (by omega) (by decide) rfl (fun ls hl => ?_)
        refine lv_goto (tgt := 20) hx hb d_TX_solidBehind_40 (by decide) ?_
        exact ih ls (by omega) (by rw [← he]; conv => rhs; unfold p_back; rw [if_pos ⟨by omega, by omega⟩]) hl
set_option maxHeartbeats 4000000 in
set_option maxRecDepth 100000 in
/-- Text.solidBehind -/
theorem c_solidBehind (l : Launch) {D : va_G} {ad : Nat → Nat} {cs : pg_C} {rp : Option Nat} {M : Nat → Nat → Int} (a b : Nat) (ha : a ≤ 600) (hb6 : b ≤ 600) (hz : ∀ j, zb (M 7 j)) : Met l y_TX_solidBehind ws_TX_solidBehind ({ frames := 1, cells := 0, slots := 0, locals := 21 } : Room) (va_Pc [.ref (ad (1)), .int (iI (((a : Nat) : Int))), .int (iI (((b : Nat) : Int)))] (ro_B D vwCl (pg_tys cs) (pg_w ad cs rp M))) (vp_Si (fun r => r = iI (((p_solid (M 7) a b : Nat) : Int)))) 0 0 (fun _ => False) := by
  refine Met.ofW (cc := b_TX_solidBehind) (maxL := 4) (ret := (some .int)) (by decide) rfl ?_
  intro p e s m args below meth c s₁ B hml hv
  obtain ⟨rfl, hP, hK⟩ := hv
  have hx := B.exec
  have hb := B.bytes
  have hr := B.returns
  have hts := atoms_spec (ws := ws_TX_solidBehind) B.pre
  have hg : ∀ w ∈ gt, w.before _ s = true := fun w h => hts w (List.mem_cons_of_mem _ h)
  have hown : s.vm.findClass R_TX = some m.cls := findClass_of_methodNamed B.named
  have hlocks := B.notSynchronized
  have hl := lv_entry ([.ref (ad (1)), .int (iI (((a : Nat) : Int))), .int (iI (((b : Nat) : Int)))]) (n := 4) (Nat.le_of_ble_eq_true rfl)
  rw [lg_entry_eq]
  generalize (lg_sl ([.ref (ad (1)), .int (iI (((a : Nat) : Int))), .int (iI (((b : Nat) : Int)))]) ++ List.replicate (4 - (lg_sl ([.ref (ad (1)), .int (iI (((a : Nat) : Int))), .int (iI (((b : Nat) : Int)))])).length) Slot.unset).toArray = ls at hl ⊢
  have hl : lv_has ls 4 [(0, .ref (ad (1))), (1, .int (iI (((a : Nat) : Int)))), (2, .int (iI (((b : Nat) : Int))))] := hl
  refine lv_iload_n hx hb d_TX_solidBehind_0 rfl (lv_at hl 2 rfl) ?_
  refine lv_istore_n (lv' := [(3, .int (iI (((b : Nat) : Int)))), (0, .ref (ad (1))), (1, .int (iI (((a : Nat) : Int)))), (2, .int (iI (((b : Nat) : Int))))]) hx hb d_TX_solidBehind_1 rfl hl (by decide) rfl (fun ls hl => ?_)
  refine lv_iload_n hx hb d_TX_solidBehind_2 rfl (lv_at hl 0 rfl) ?_
  refine lv_iload_n hx hb d_TX_solidBehind_3 rfl (lv_at hl 2 rfl) ?_
  refine z_icmp_le hx hb (tgt := 20) d_TX_solidBehind_4 (by decide) ⟨by omega, by omega⟩ ⟨by omega, by omega⟩ (fun c_4 => ?_) (fun c_4 => ?_)
  · refine lp_solidBehind hx hb hg hown hK hP a b (p_solid (M 7) a b) ha hz (fun ls hl => ?_) (b) ls (by omega) (by unfold p_solid; first | rw [if_pos ⟨by omega, by omega⟩] | rw [if_neg (by omega)]) (lv_sub hl [0, 1, 2, 3] rfl)
    refine lv_iload_n hx hb d_TX_solidBehind_43 rfl (lv_at hl 0 rfl) ?_
    exact W.iret (v := iI (((p_solid (M 7) a b : Nat) : Int))) hx hb hr (fun t ht hW => ⟨_, rfl, rfl, ht⟩) (fun q h => by cases h) d_TX_solidBehind_44
  · refine lv_aload_n hx hb d_TX_solidBehind_7 rfl (lv_at hl 1 rfl) ?_
    refine lv_iload_n hx hb d_TX_solidBehind_8 rfl (lv_at hl 0 rfl) ?_
    refine z_iconst hx hb (z := 1) d_TX_solidBehind_9 ?_
    refine z_isub hx hb d_TX_solidBehind_10 (v := ((b - 1 : Nat) : Int)) (by omega) ?_
    refine ro_V (As := [.int (iI (((b - 1 : Nat) : Int)))]) (rest := []) (z := bz (p_endl (M 7) (b - 1)) inferInstance) ⟨hx, hb, hml, hown, hg⟩ (c_endsLine l (b - 1) (by omega) hz) (cwV 1 hg (gt_V (List.mem_append_right _ (List.mem_append_right _ (List.mem_append_right _ (List.mem_append_right _ (List.mem_append_right _ (List.mem_append_left _ (List.mem_of_getElem? (i := 37) rfl))))))) (List.mem_append_right _ (List.mem_append_right _ (List.mem_append_right _ (List.mem_append_right _ (List.mem_append_right _ (List.mem_append_left _ (List.mem_of_getElem? (i := 38) rfl))))))) (List.mem_append_right _ (List.mem_append_right _ (List.mem_append_right _ (List.mem_append_right _ (List.mem_append_right _ (List.mem_append_left _ (List.mem_of_getElem? (i := 39) rfl))))))) (List.mem_append_right _ (List.mem_append_left _ (List.mem_of_getElem? (i := 3) rfl))) (List.mem_append_right _ (List.mem_append_right _ (List.mem_append_right _ (List.mem_append_right _ (List.mem_append_right _ (List.mem_append_right _ (List.mem_append_left _ (List.mem_of_getElem? (i := 0) rfl))))))))) rfl rfl rfl (by decide +kernel) ⟨Nat.le_of_ble_eq_true rfl, Nat.le_of_ble_eq_true rfl⟩) hK hP (va_recv hK hP (ci := 1) (q0 := 1) rfl (wl_atE (by decide) rfl)) rfl hl.1 rfl (Nat.le_of_ble_eq_true rfl) d_TX_solidBehind_11 ⟨Nat.zero_le _, Nat.zero_le _⟩ ?_
    refine z_ifb_eq hx hb (tgt := 20) d_TX_solidBehind_14 (by decide) (fun c_14 => ?_) (fun c_14 => ?_)
    · refine lp_solidBehind hx hb hg hown hK hP a b (p_solid (M 7) a b) ha hz (fun ls hl => ?_) (b) ls (by omega) (by unfold p_solid; first | rw [if_pos ⟨by omega, by omega⟩] | rw [if_neg (by omega)]) (lv_sub hl [0, 1, 2, 3] rfl)
      refine lv_iload_n hx hb d_TX_solidBehind_43 rfl (lv_at hl 0 rfl) ?_
      exact W.iret (v := iI (((p_solid (M 7) a b : Nat) : Int))) hx hb hr (fun t ht hW => ⟨_, rfl, rfl, ht⟩) (fun q h => by cases h) d_TX_solidBehind_44
    · refine z_iinc (v := ((b - 1 : Nat) : Int)) (lv' := [(3, .int (iI (((b - 1 : Nat) : Int)))), (0, .ref (ad (1))), (1, .int (iI (((a : Nat) : Int)))), (2, .int (iI (((b : Nat) : Int))))]) hx hb d_TX_solidBehind_17 hl (k := 0) rfl (by omega) (by decide) rfl (fun ls hl => ?_)
      refine lp_solidBehind hx hb hg hown hK hP a b (p_solid (M 7) a b) ha hz (fun ls hl => ?_) (b - 1) ls (by omega) (by unfold p_solid; first | rw [if_pos ⟨by omega, by omega⟩] | rw [if_neg (by omega)]) (lv_sub hl [0, 1, 2, 3] rfl)
      refine lv_iload_n hx hb d_TX_solidBehind_43 rfl (lv_at hl 0 rfl) ?_
      exact W.iret (v := iI (((p_solid (M 7) a b : Nat) : Int))) hx hb hr (fun t ht hW => ⟨_, rfl, rfl, ht⟩) (fun q h => by cases h) d_TX_solidBehind_44
end
section
theorem d_LN_widthsBehindTab_0 : decode b_LN_widthsBehindTab 0 = .ok (.iconst 0, 1) := by decide +kernel
theorem d_LN_widthsBehindTab_1 : decode b_LN_widthsBehindTab 1 = .ok (.istore 4, 2) := by decide +kernel
theorem d_LN_widthsBehindTab_3 : decode b_LN_widthsBehindTab 3 = .ok (.iload_n 1, 1) := by decide +kernel
theorem d_LN_widthsBehindTab_4 : decode b_LN_widthsBehindTab 4 = .ok (.iconst 1, 1) := by decide +kernel
theorem d_LN_widthsBehindTab_5 : decode b_LN_widthsBehindTab 5 = .ok (.iadd, 1) := by decide +kernel
theorem d_LN_widthsBehindTab_6 : decode b_LN_widthsBehindTab 6 = .ok (.istore 5, 2) := by decide +kernel
theorem d_LN_widthsBehindTab_8 : decode b_LN_widthsBehindTab 8 = .ok (.iload 5, 2) := by decide +kernel
theorem d_LN_widthsBehindTab_10 : decode b_LN_widthsBehindTab 10 = .ok (.iload_n 2, 1) := by decide +kernel
theorem d_LN_widthsBehindTab_11 : decode b_LN_widthsBehindTab 11 = .ok (.if_icmp .ge 50, 3) := by decide +kernel
theorem d_LN_widthsBehindTab_14 : decode b_LN_widthsBehindTab 14 = .ok (.aload_n 0, 1) := by decide +kernel
theorem d_LN_widthsBehindTab_15 : decode b_LN_widthsBehindTab 15 = .ok (.getfield 19, 3) := by decide +kernel
theorem d_LN_widthsBehindTab_18 : decode b_LN_widthsBehindTab 18 = .ok (.getfield 121, 3) := by decide +kernel
theorem d_LN_widthsBehindTab_21 : decode b_LN_widthsBehindTab 21 = .ok (.iload 5, 2) := by decide +kernel
theorem d_LN_widthsBehindTab_23 : decode b_LN_widthsBehindTab 23 = .ok (.iaload, 1) := by decide +kernel
theorem d_LN_widthsBehindTab_24 : decode b_LN_widthsBehindTab 24 = .ok (.iconst 2, 1) := by decide +kernel
theorem d_LN_widthsBehindTab_25 : decode b_LN_widthsBehindTab 25 = .ok (.if_icmp .eq 36, 3) := by decide +kernel
theorem d_LN_widthsBehindTab_28 : decode b_LN_widthsBehindTab 28 = .ok (.iload 4, 2) := by decide +kernel
theorem d_LN_widthsBehindTab_30 : decode b_LN_widthsBehindTab 30 = .ok (.aload_n 0, 1) := by decide +kernel
theorem d_LN_widthsBehindTab_31 : decode b_LN_widthsBehindTab 31 = .ok (.getfield 19, 3) := by decide +kernel
theorem d_LN_widthsBehindTab_34 : decode b_LN_widthsBehindTab 34 = .ok (.iload 5, 2) := by decide +kernel
theorem d_LN_widthsBehindTab_36 : decode b_LN_widthsBehindTab 36 = .ok (.iload 5, 2) := by decide +kernel
theorem d_LN_widthsBehindTab_38 : decode b_LN_widthsBehindTab 38 = .ok (.iload_n 3, 1) := by decide +kernel
theorem d_LN_widthsBehindTab_39 : decode b_LN_widthsBehindTab 39 = .ok (.iconst 1, 1) := by decide +kernel
theorem d_LN_widthsBehindTab_40 : decode b_LN_widthsBehindTab 40 = .ok (.isub, 1) := by decide +kernel
theorem d_LN_widthsBehindTab_41 : decode b_LN_widthsBehindTab 41 = .ok (.if_icmp .ne 7, 3) := by decide +kernel
theorem d_LN_widthsBehindTab_44 : decode b_LN_widthsBehindTab 44 = .ok (.iconst 1, 1) := by decide +kernel
theorem d_LN_widthsBehindTab_45 : decode b_LN_widthsBehindTab 45 = .ok (.goto 4, 3) := by decide +kernel
theorem d_LN_widthsBehindTab_48 : decode b_LN_widthsBehindTab 48 = .ok (.iconst 0, 1) := by decide +kernel
theorem d_LN_widthsBehindTab_49 : decode b_LN_widthsBehindTab 49 = .ok (.invokevirtual 134, 3) := by decide +kernel
theorem d_LN_widthsBehindTab_52 : decode b_LN_widthsBehindTab 52 = .ok (.iadd, 1) := by decide +kernel
theorem d_LN_widthsBehindTab_53 : decode b_LN_widthsBehindTab 53 = .ok (.istore 4, 2) := by decide +kernel
theorem d_LN_widthsBehindTab_55 : decode b_LN_widthsBehindTab 55 = .ok (.iinc 5 1, 3) := by decide +kernel
theorem d_LN_widthsBehindTab_58 : decode b_LN_widthsBehindTab 58 = .ok (.goto (-50), 3) := by decide +kernel
theorem d_LN_widthsBehindTab_61 : decode b_LN_widthsBehindTab 61 = .ok (.iload 4, 2) := by decide +kernel
theorem d_LN_widthsBehindTab_63 : decode b_LN_widthsBehindTab 63 = .ok (.ireturn, 1) := by decide +kernel
theorem d_LN_heightOf_0 : decode b_LN_heightOf 0 = .ok (.aload_n 1, 1) := by decide +kernel
theorem d_LN_heightOf_1 : decode b_LN_heightOf 1 = .ok (.getfield 53, 3) := by decide +kernel
theorem d_LN_heightOf_4 : decode b_LN_heightOf 4 = .ok (.bipush 10, 2) := by decide +kernel
theorem d_LN_heightOf_6 : decode b_LN_heightOf 6 = .ok (.iaload, 1) := by decide +kernel
theorem d_LN_heightOf_7 : decode b_LN_heightOf 7 = .ok (.istore 4, 2) := by decide +kernel
theorem d_LN_heightOf_9 : decode b_LN_heightOf 9 = .ok (.iload_n 2, 1) := by decide +kernel
theorem d_LN_heightOf_10 : decode b_LN_heightOf 10 = .ok (.istore 5, 2) := by decide +kernel
theorem d_LN_heightOf_12 : decode b_LN_heightOf 12 = .ok (.iload 5, 2) := by decide +kernel
theorem d_LN_heightOf_14 : decode b_LN_heightOf 14 = .ok (.iload_n 3, 1) := by decide +kernel
theorem d_LN_heightOf_15 : decode b_LN_heightOf 15 = .ok (.if_icmp .ge 26, 3) := by decide +kernel
theorem d_LN_heightOf_18 : decode b_LN_heightOf 18 = .ok (.iload 4, 2) := by decide +kernel
theorem d_LN_heightOf_20 : decode b_LN_heightOf 20 = .ok (.aload_n 0, 1) := by decide +kernel
theorem d_LN_heightOf_21 : decode b_LN_heightOf 21 = .ok (.getfield 19, 3) := by decide +kernel
theorem d_LN_heightOf_24 : decode b_LN_heightOf 24 = .ok (.getfield 138, 3) := by decide +kernel
theorem d_LN_heightOf_27 : decode b_LN_heightOf 27 = .ok (.iload 5, 2) := by decide +kernel
theorem d_LN_heightOf_29 : decode b_LN_heightOf 29 = .ok (.iaload, 1) := by decide +kernel
theorem d_LN_heightOf_30 : decode b_LN_heightOf 30 = .ok (.invokestatic 59, 3) := by decide +kernel
theorem d_LN_heightOf_33 : decode b_LN_heightOf 33 = .ok (.istore 4, 2) := by decide +kernel
theorem d_LN_heightOf_35 : decode b_LN_heightOf 35 = .ok (.iinc 5 1, 3) := by decide +kernel
theorem d_LN_heightOf_38 : decode b_LN_heightOf 38 = .ok (.goto (-26), 3) := by decide +kernel
theorem d_LN_heightOf_41 : decode b_LN_heightOf 41 = .ok (.iload 4, 2) := by decide +kernel
theorem d_LN_heightOf_43 : decode b_LN_heightOf 43 = .ok (.ireturn, 1) := by decide +kernel
theorem d_LN_signBehindLastTab_0 : decode b_LN_signBehindLastTab 0 = .ok (.iload_n 2, 1) := by decide +kernel
theorem d_LN_signBehindLastTab_1 : decode b_LN_signBehindLastTab 1 = .ok (.istore_n 3, 1) := by decide +kernel
theorem d_LN_signBehindLastTab_2 : decode b_LN_signBehindLastTab 2 = .ok (.iload_n 3, 1) := by decide +kernel
theorem d_LN_signBehindLastTab_3 : decode b_LN_signBehindLastTab 3 = .ok (.iload_n 1, 1) := by decide +kernel
theorem d_LN_signBehindLastTab_4 : decode b_LN_signBehindLastTab 4 = .ok (.if_icmp .le 24, 3) := by decide +kernel
theorem d_LN_signBehindLastTab_7 : decode b_LN_signBehindLastTab 7 = .ok (.aload_n 0, 1) := by decide +kernel
theorem d_LN_signBehindLastTab_8 : decode b_LN_signBehindLastTab 8 = .ok (.getfield 19, 3) := by decide +kernel
theorem d_LN_signBehindLastTab_11 : decode b_LN_signBehindLastTab 11 = .ok (.getfield 121, 3) := by decide +kernel
theorem d_LN_signBehindLastTab_14 : decode b_LN_signBehindLastTab 14 = .ok (.iload_n 3, 1) := by decide +kernel
theorem d_LN_signBehindLastTab_15 : decode b_LN_signBehindLastTab 15 = .ok (.iconst 1, 1) := by decide +kernel
theorem d_LN_signBehindLastTab_16 : decode b_LN_signBehindLastTab 16 = .ok (.isub, 1) := by decide +kernel
theorem d_LN_signBehindLastTab_17 : decode b_LN_signBehindLastTab 17 = .ok (.iaload, 1) := by decide +kernel
theorem d_LN_signBehindLastTab_18 : decode b_LN_signBehindLastTab 18 = .ok (.iconst 2, 1) := by decide +kernel
theorem d_LN_signBehindLastTab_19 : decode b_LN_signBehindLastTab 19 = .ok (.if_icmp .eq 9, 3) := by decide +kernel
theorem d_LN_signBehindLastTab_22 : decode b_LN_signBehindLastTab 22 = .ok (.iinc 3 (-1), 3) := by decide +kernel
theorem d_LN_signBehindLastTab_25 : decode b_LN_signBehindLastTab 25 = .ok (.goto (-23), 3) := by decide +kernel
theorem d_LN_signBehindLastTab_28 : decode b_LN_signBehindLastTab 28 = .ok (.iload_n 3, 1) := by decide +kernel
theorem d_LN_signBehindLastTab_29 : decode b_LN_signBehindLastTab 29 = .ok (.ireturn, 1) := by decide +kernel
theorem d_RU_endWith_0 : decode b_RU_endWith 0 = .ok (.aload_n 0, 1) := by decide +kernel
theorem d_RU_endWith_1 : decode b_RU_endWith 1 = .ok (.getfield 23, 3) := by decide +kernel
theorem d_RU_endWith_4 : decode b_RU_endWith 4 = .ok (.ifCond .eq 32, 3) := by decide +kernel
theorem d_RU_endWith_7 : decode b_RU_endWith 7 = .ok (.aload_n 0, 1) := by decide +kernel
theorem d_RU_endWith_8 : decode b_RU_endWith 8 = .ok (.getfield 19, 3) := by decide +kernel
theorem d_RU_endWith_11 : decode b_RU_endWith 11 = .ok (.ifnull 25, 3) := by decide +kernel
theorem d_RU_endWith_14 : decode b_RU_endWith 14 = .ok (.aload_n 0, 1) := by decide +kernel
theorem d_RU_endWith_15 : decode b_RU_endWith 15 = .ok (.getfield 19, 3) := by decide +kernel
theorem d_RU_endWith_18 : decode b_RU_endWith 18 = .ok (.aload_n 0, 1) := by decide +kernel
theorem d_RU_endWith_19 : decode b_RU_endWith 19 = .ok (.getfield 63, 3) := by decide +kernel
theorem d_RU_endWith_22 : decode b_RU_endWith 22 = .ok (.iload_n 1, 1) := by decide +kernel
theorem d_RU_endWith_23 : decode b_RU_endWith 23 = .ok (.aload_n 0, 1) := by decide +kernel
theorem d_RU_endWith_24 : decode b_RU_endWith 24 = .ok (.getfield 15, 3) := by decide +kernel
theorem d_RU_endWith_27 : decode b_RU_endWith 27 = .ok (.getfield 66, 3) := by decide +kernel
theorem d_RU_endWith_30 : decode b_RU_endWith 30 = .ok (.invokevirtual 71, 3) := by decide +kernel
theorem d_RU_endWith_33 : decode b_RU_endWith 33 = .ok (.goto 4, 3) := by decide +kernel
theorem d_RU_endWith_36 : decode b_RU_endWith 36 = .ok (.iconst 0, 1) := by decide +kernel
theorem d_RU_endWith_37 : decode b_RU_endWith 37 = .ok (.istore_n 2, 1) := by decide +kernel
theorem d_RU_endWith_38 : decode b_RU_endWith 38 = .ok (.aload_n 0, 1) := by decide +kernel
theorem d_RU_endWith_39 : decode b_RU_endWith 39 = .ok (.getfield 63, 3) := by decide +kernel
theorem d_RU_endWith_42 : decode b_RU_endWith 42 = .ok (.iload_n 2, 1) := by decide +kernel
theorem d_RU_endWith_43 : decode b_RU_endWith 43 = .ok (.iadd, 1) := by decide +kernel
theorem d_RU_endWith_44 : decode b_RU_endWith 44 = .ok (.iload_n 1, 1) := by decide +kernel
theorem d_RU_endWith_45 : decode b_RU_endWith 45 = .ok (.iadd, 1) := by decide +kernel
theorem d_RU_endWith_46 : decode b_RU_endWith 46 = .ok (.ireturn, 1) := by decide +kernel
theorem d_RU_endBehind_0 : decode b_RU_endBehind 0 = .ok (.aload_n 0, 1) := by decide +kernel
theorem d_RU_endBehind_1 : decode b_RU_endBehind 1 = .ok (.getfield 9, 3) := by decide +kernel
theorem d_RU_endBehind_4 : decode b_RU_endBehind 4 = .ok (.getfield 31, 3) := by decide +kernel
theorem d_RU_endBehind_7 : decode b_RU_endBehind 7 = .ok (.iload_n 1, 1) := by decide +kernel
theorem d_RU_endBehind_8 : decode b_RU_endBehind 8 = .ok (.iaload, 1) := by decide +kernel
theorem d_RU_endBehind_9 : decode b_RU_endBehind 9 = .ok (.iconst 4, 1) := by decide +kernel
theorem d_RU_endBehind_10 : decode b_RU_endBehind 10 = .ok (.if_icmp .ne 24, 3) := by decide +kernel
theorem d_RU_endBehind_13 : decode b_RU_endBehind 13 = .ok (.aload_n 0, 1) := by decide +kernel
theorem d_RU_endBehind_14 : decode b_RU_endBehind 14 = .ok (.aload_n 0, 1) := by decide +kernel
theorem d_RU_endBehind_15 : decode b_RU_endBehind 15 = .ok (.getfield 37, 3) := by decide +kernel
theorem d_RU_endBehind_18 : decode b_RU_endBehind 18 = .ok (.aload_n 0, 1) := by decide +kernel
theorem d_RU_endBehind_19 : decode b_RU_endBehind 19 = .ok (.getfield 9, 3) := by decide +kernel
theorem d_RU_endBehind_22 : decode b_RU_endBehind 22 = .ok (.getfield 56, 3) := by decide +kernel
theorem d_RU_endBehind_25 : decode b_RU_endBehind 25 = .ok (.iload_n 1, 1) := by decide +kernel
theorem d_RU_endBehind_26 : decode b_RU_endBehind 26 = .ok (.iaload, 1) := by decide +kernel
theorem d_RU_endBehind_27 : decode b_RU_endBehind 27 = .ok (.iadd, 1) := by decide +kernel
theorem d_RU_endBehind_28 : decode b_RU_endBehind 28 = .ok (.invokevirtual 41, 3) := by decide +kernel
theorem d_RU_endBehind_31 : decode b_RU_endBehind 31 = .ok (.goto 7, 3) := by decide +kernel
theorem d_RU_endBehind_34 : decode b_RU_endBehind 34 = .ok (.aload_n 0, 1) := by decide +kernel
theorem d_RU_endBehind_35 : decode b_RU_endBehind 35 = .ok (.invokevirtual 59, 3) := by decide +kernel
theorem d_RU_endBehind_38 : decode b_RU_endBehind 38 = .ok (.ireturn, 1) := by decide +kernel
theorem d_RU_leastEnd_0 : decode b_RU_leastEnd 0 = .ok (.aload_n 0, 1) := by decide +kernel
theorem d_RU_leastEnd_1 : decode b_RU_leastEnd 1 = .ok (.aload_n 0, 1) := by decide +kernel
theorem d_RU_leastEnd_2 : decode b_RU_leastEnd 2 = .ok (.getfield 53, 3) := by decide +kernel
theorem d_RU_leastEnd_5 : decode b_RU_leastEnd 5 = .ok (.invokevirtual 41, 3) := by decide +kernel
theorem d_RU_leastEnd_8 : decode b_RU_leastEnd 8 = .ok (.ireturn, 1) := by decide +kernel
theorem d_LN_endsPage_0 : decode b_LN_endsPage 0 = .ok (.aload_n 0, 1) := by decide +kernel
theorem d_LN_endsPage_1 : decode b_LN_endsPage 1 = .ok (.getfield 11, 3) := by decide +kernel
theorem d_LN_endsPage_4 : decode b_LN_endsPage 4 = .ok (.iconst 2, 1) := by decide +kernel
theorem d_LN_endsPage_5 : decode b_LN_endsPage 5 = .ok (.aaload, 1) := by decide +kernel
theorem d_LN_endsPage_6 : decode b_LN_endsPage 6 = .ok (.iload_n 1, 1) := by decide +kernel
theorem d_LN_endsPage_7 : decode b_LN_endsPage 7 = .ok (.iaload, 1) := by decide +kernel
theorem d_LN_endsPage_8 : decode b_LN_endsPage 8 = .ok (.istore_n 2, 1) := by decide +kernel
theorem d_LN_endsPage_9 : decode b_LN_endsPage 9 = .ok (.iload_n 2, 1) := by decide +kernel
theorem d_LN_endsPage_10 : decode b_LN_endsPage 10 = .ok (.ifCond .le 32, 3) := by decide +kernel
theorem d_LN_endsPage_13 : decode b_LN_endsPage 13 = .ok (.aload_n 0, 1) := by decide +kernel
theorem d_LN_endsPage_14 : decode b_LN_endsPage 14 = .ok (.getfield 19, 3) := by decide +kernel
theorem d_LN_endsPage_17 : decode b_LN_endsPage 17 = .ok (.getfield 121, 3) := by decide +kernel
theorem d_LN_endsPage_20 : decode b_LN_endsPage 20 = .ok (.aload_n 0, 1) := by decide +kernel
theorem d_LN_endsPage_21 : decode b_LN_endsPage 21 = .ok (.getfield 11, 3) := by decide +kernel
theorem d_LN_endsPage_24 : decode b_LN_endsPage 24 = .ok (.iconst 1, 1) := by decide +kernel
theorem d_LN_endsPage_25 : decode b_LN_endsPage 25 = .ok (.aaload, 1) := by decide +kernel
theorem d_LN_endsPage_26 : decode b_LN_endsPage 26 = .ok (.iload_n 1, 1) := by decide +kernel
theorem d_LN_endsPage_27 : decode b_LN_endsPage 27 = .ok (.iaload, 1) := by decide +kernel
theorem d_LN_endsPage_28 : decode b_LN_endsPage 28 = .ok (.iload_n 2, 1) := by decide +kernel
theorem d_LN_endsPage_29 : decode b_LN_endsPage 29 = .ok (.iadd, 1) := by decide +kernel
theorem d_LN_endsPage_30 : decode b_LN_endsPage 30 = .ok (.iconst 1, 1) := by decide +kernel
theorem d_LN_endsPage_31 : decode b_LN_endsPage 31 = .ok (.isub, 1) := by decide +kernel
theorem d_LN_endsPage_32 : decode b_LN_endsPage 32 = .ok (.iaload, 1) := by decide +kernel
theorem d_LN_endsPage_33 : decode b_LN_endsPage 33 = .ok (.bipush 6, 2) := by decide +kernel
theorem d_LN_endsPage_35 : decode b_LN_endsPage 35 = .ok (.if_icmp .ne 7, 3) := by decide +kernel
theorem d_LN_endsPage_38 : decode b_LN_endsPage 38 = .ok (.iconst 1, 1) := by decide +kernel
theorem d_LN_endsPage_39 : decode b_LN_endsPage 39 = .ok (.goto 4, 3) := by decide +kernel
theorem d_LN_endsPage_42 : decode b_LN_endsPage 42 = .ok (.iconst 0, 1) := by decide +kernel
theorem d_LN_endsPage_43 : decode b_LN_endsPage 43 = .ok (.ireturn, 1) := by decide +kernel
theorem d_LN_isFirstOfParagraph_0 : decode b_LN_isFirstOfParagraph 0 = .ok (.iload_n 1, 1) := by decide +kernel
theorem d_LN_isFirstOfParagraph_1 : decode b_LN_isFirstOfParagraph 1 = .ok (.iconst 1, 1) := by decide +kernel
theorem d_LN_isFirstOfParagraph_2 : decode b_LN_isFirstOfParagraph 2 = .ok (.if_icmp .lt 24, 3) := by decide +kernel
theorem d_LN_isFirstOfParagraph_5 : decode b_LN_isFirstOfParagraph 5 = .ok (.aload_n 0, 1) := by decide +kernel
theorem d_LN_isFirstOfParagraph_6 : decode b_LN_isFirstOfParagraph 6 = .ok (.getfield 11, 3) := by decide +kernel
theorem d_LN_isFirstOfParagraph_9 : decode b_LN_isFirstOfParagraph 9 = .ok (.iconst 0, 1) := by decide +kernel
theorem d_LN_isFirstOfParagraph_10 : decode b_LN_isFirstOfParagraph 10 = .ok (.aaload, 1) := by decide +kernel
theorem d_LN_isFirstOfParagraph_11 : decode b_LN_isFirstOfParagraph 11 = .ok (.iload_n 1, 1) := by decide +kernel
theorem d_LN_isFirstOfParagraph_12 : decode b_LN_isFirstOfParagraph 12 = .ok (.iconst 1, 1) := by decide +kernel
theorem d_LN_isFirstOfParagraph_13 : decode b_LN_isFirstOfParagraph 13 = .ok (.isub, 1) := by decide +kernel
theorem d_LN_isFirstOfParagraph_14 : decode b_LN_isFirstOfParagraph 14 = .ok (.iaload, 1) := by decide +kernel
theorem d_LN_isFirstOfParagraph_15 : decode b_LN_isFirstOfParagraph 15 = .ok (.aload_n 0, 1) := by decide +kernel
theorem d_LN_isFirstOfParagraph_16 : decode b_LN_isFirstOfParagraph 16 = .ok (.getfield 11, 3) := by decide +kernel
theorem d_LN_isFirstOfParagraph_19 : decode b_LN_isFirstOfParagraph 19 = .ok (.iconst 0, 1) := by decide +kernel
theorem d_LN_isFirstOfParagraph_20 : decode b_LN_isFirstOfParagraph 20 = .ok (.aaload, 1) := by decide +kernel
theorem d_LN_isFirstOfParagraph_21 : decode b_LN_isFirstOfParagraph 21 = .ok (.iload_n 1, 1) := by decide +kernel
theorem d_LN_isFirstOfParagraph_22 : decode b_LN_isFirstOfParagraph 22 = .ok (.iaload, 1) := by decide +kernel
theorem d_LN_isFirstOfParagraph_23 : decode b_LN_isFirstOfParagraph 23 = .ok (.if_icmp .eq 7, 3) := by decide +kernel
theorem d_LN_isFirstOfParagraph_26 : decode b_LN_isFirstOfParagraph 26 = .ok (.iconst 1, 1) := by decide +kernel
theorem d_LN_isFirstOfParagraph_27 : decode b_LN_isFirstOfParagraph 27 = .ok (.goto 4, 3) := by decide +kernel
theorem d_LN_isFirstOfParagraph_30 : decode b_LN_isFirstOfParagraph 30 = .ok (.iconst 0, 1) := by decide +kernel
theorem d_LN_isFirstOfParagraph_31 : decode b_LN_isFirstOfParagraph 31 = .ok (.ireturn, 1) := by decide +kernel
theorem d_LN_isLastOfParagraph_0 : decode b_LN_isLastOfParagraph 0 = .ok (.iload_n 1, 1) := by decide +kernel
theorem d_LN_isLastOfParagraph_1 : decode b_LN_isLastOfParagraph 1 = .ok (.aload_n 0, 1) := by decide +kernel
theorem d_LN_isLastOfParagraph_2 : decode b_LN_isLastOfParagraph 2 = .ok (.getfield 36, 3) := by decide +kernel
theorem d_LN_isLastOfParagraph_5 : decode b_LN_isLastOfParagraph 5 = .ok (.iconst 1, 1) := by decide +kernel
theorem d_LN_isLastOfParagraph_6 : decode b_LN_isLastOfParagraph 6 = .ok (.isub, 1) := by decide +kernel
theorem d_LN_isLastOfParagraph_7 : decode b_LN_isLastOfParagraph 7 = .ok (.if_icmp .ge 24, 3) := by decide +kernel
theorem d_LN_isLastOfParagraph_10 : decode b_LN_isLastOfParagraph 10 = .ok (.aload_n 0, 1) := by decide +kernel
theorem d_LN_isLastOfParagraph_11 : decode b_LN_isLastOfParagraph 11 = .ok (.getfield 11, 3) := by decide +kernel
theorem d_LN_isLastOfParagraph_14 : decode b_LN_isLastOfParagraph 14 = .ok (.iconst 0, 1) := by decide +kernel
theorem d_LN_isLastOfParagraph_15 : decode b_LN_isLastOfParagraph 15 = .ok (.aaload, 1) := by decide +kernel
theorem d_LN_isLastOfParagraph_16 : decode b_LN_isLastOfParagraph 16 = .ok (.iload_n 1, 1) := by decide +kernel
theorem d_LN_isLastOfParagraph_17 : decode b_LN_isLastOfParagraph 17 = .ok (.iconst 1, 1) := by decide +kernel
theorem d_LN_isLastOfParagraph_18 : decode b_LN_isLastOfParagraph 18 = .ok (.iadd, 1) := by decide +kernel
theorem d_LN_isLastOfParagraph_19 : decode b_LN_isLastOfParagraph 19 = .ok (.iaload, 1) := by decide +kernel
theorem d_LN_isLastOfParagraph_20 : decode b_LN_isLastOfParagraph 20 = .ok (.aload_n 0, 1) := by decide +kernel
theorem d_LN_isLastOfParagraph_21 : decode b_LN_isLastOfParagraph 21 = .ok (.getfield 11, 3) := by decide +kernel
theorem d_LN_isLastOfParagraph_24 : decode b_LN_isLastOfParagraph 24 = .ok (.iconst 0, 1) := by decide +kernel
theorem d_LN_isLastOfParagraph_25 : decode b_LN_isLastOfParagraph 25 = .ok (.aaload, 1) := by decide +kernel
theorem d_LN_isLastOfParagraph_26 : decode b_LN_isLastOfParagraph 26 = .ok (.iload_n 1, 1) := by decide +kernel
theorem d_LN_isLastOfParagraph_27 : decode b_LN_isLastOfParagraph 27 = .ok (.iaload, 1) := by decide +kernel
theorem d_LN_isLastOfParagraph_28 : decode b_LN_isLastOfParagraph 28 = .ok (.if_icmp .eq 7, 3) := by decide +kernel
theorem d_LN_isLastOfParagraph_31 : decode b_LN_isLastOfParagraph 31 = .ok (.iconst 1, 1) := by decide +kernel
theorem d_LN_isLastOfParagraph_32 : decode b_LN_isLastOfParagraph 32 = .ok (.goto 4, 3) := by decide +kernel
theorem d_LN_isLastOfParagraph_35 : decode b_LN_isLastOfParagraph 35 = .ok (.iconst 0, 1) := by decide +kernel
theorem d_LN_isLastOfParagraph_36 : decode b_LN_isLastOfParagraph 36 = .ok (.ireturn, 1) := by decide +kernel
theorem d_LN_signAhead_0 : decode b_LN_signAhead 0 = .ok (.aload_n 0, 1) := by decide +kernel
theorem d_LN_signAhead_1 : decode b_LN_signAhead 1 = .ok (.getfield 11, 3) := by decide +kernel
theorem d_LN_signAhead_4 : decode b_LN_signAhead 4 = .ok (.iconst 1, 1) := by decide +kernel
theorem d_LN_signAhead_5 : decode b_LN_signAhead 5 = .ok (.aaload, 1) := by decide +kernel
theorem d_LN_signAhead_6 : decode b_LN_signAhead 6 = .ok (.iload_n 1, 1) := by decide +kernel
theorem d_LN_signAhead_7 : decode b_LN_signAhead 7 = .ok (.iaload, 1) := by decide +kernel
theorem d_LN_signAhead_8 : decode b_LN_signAhead 8 = .ok (.istore_n 3, 1) := by decide +kernel
theorem d_LN_signAhead_9 : decode b_LN_signAhead 9 = .ok (.iload_n 3, 1) := by decide +kernel
theorem d_LN_signAhead_10 : decode b_LN_signAhead 10 = .ok (.aload_n 0, 1) := by decide +kernel
theorem d_LN_signAhead_11 : decode b_LN_signAhead 11 = .ok (.getfield 11, 3) := by decide +kernel
theorem d_LN_signAhead_14 : decode b_LN_signAhead 14 = .ok (.iconst 2, 1) := by decide +kernel
theorem d_LN_signAhead_15 : decode b_LN_signAhead 15 = .ok (.aaload, 1) := by decide +kernel
theorem d_LN_signAhead_16 : decode b_LN_signAhead 16 = .ok (.iload_n 1, 1) := by decide +kernel
theorem d_LN_signAhead_17 : decode b_LN_signAhead 17 = .ok (.iaload, 1) := by decide +kernel
theorem d_LN_signAhead_18 : decode b_LN_signAhead 18 = .ok (.iadd, 1) := by decide +kernel
theorem d_LN_signAhead_19 : decode b_LN_signAhead 19 = .ok (.istore 4, 2) := by decide +kernel
theorem d_LN_signAhead_21 : decode b_LN_signAhead 21 = .ok (.iload_n 3, 1) := by decide +kernel
theorem d_LN_signAhead_22 : decode b_LN_signAhead 22 = .ok (.istore 5, 2) := by decide +kernel
theorem d_LN_signAhead_24 : decode b_LN_signAhead 24 = .ok (.iload 5, 2) := by decide +kernel
theorem d_LN_signAhead_26 : decode b_LN_signAhead 26 = .ok (.iload 4, 2) := by decide +kernel
theorem d_LN_signAhead_28 : decode b_LN_signAhead 28 = .ok (.if_icmp .ge 53, 3) := by decide +kernel
theorem d_LN_signAhead_31 : decode b_LN_signAhead 31 = .ok (.aload_n 0, 1) := by decide +kernel
theorem d_LN_signAhead_32 : decode b_LN_signAhead 32 = .ok (.getfield 16, 3) := by decide +kernel
theorem d_LN_signAhead_35 : decode b_LN_signAhead 35 = .ok (.iconst 1, 1) := by decide +kernel
theorem d_LN_signAhead_36 : decode b_LN_signAhead 36 = .ok (.aaload, 1) := by decide +kernel
theorem d_LN_signAhead_37 : decode b_LN_signAhead 37 = .ok (.iload 5, 2) := by decide +kernel
theorem d_LN_signAhead_39 : decode b_LN_signAhead 39 = .ok (.iaload, 1) := by decide +kernel
theorem d_LN_signAhead_40 : decode b_LN_signAhead 40 = .ok (.aload_n 0, 1) := by decide +kernel
theorem d_LN_signAhead_41 : decode b_LN_signAhead 41 = .ok (.getfield 16, 3) := by decide +kernel
theorem d_LN_signAhead_44 : decode b_LN_signAhead 44 = .ok (.iconst 2, 1) := by decide +kernel
theorem d_LN_signAhead_45 : decode b_LN_signAhead 45 = .ok (.aaload, 1) := by decide +kernel
theorem d_LN_signAhead_46 : decode b_LN_signAhead 46 = .ok (.iload 5, 2) := by decide +kernel
theorem d_LN_signAhead_48 : decode b_LN_signAhead 48 = .ok (.iaload, 1) := by decide +kernel
theorem d_LN_signAhead_49 : decode b_LN_signAhead 49 = .ok (.iconst 2, 1) := by decide +kernel
theorem d_LN_signAhead_50 : decode b_LN_signAhead 50 = .ok (.idiv, 1) := by decide +kernel
theorem d_LN_signAhead_51 : decode b_LN_signAhead 51 = .ok (.iadd, 1) := by decide +kernel
theorem d_LN_signAhead_52 : decode b_LN_signAhead 52 = .ok (.istore 6, 2) := by decide +kernel
theorem d_LN_signAhead_54 : decode b_LN_signAhead 54 = .ok (.iload 6, 2) := by decide +kernel
theorem d_LN_signAhead_56 : decode b_LN_signAhead 56 = .ok (.iload_n 2, 1) := by decide +kernel
theorem d_LN_signAhead_57 : decode b_LN_signAhead 57 = .ok (.if_icmp .gt 15, 3) := by decide +kernel
theorem d_LN_signAhead_60 : decode b_LN_signAhead 60 = .ok (.aload_n 0, 1) := by decide +kernel
theorem d_LN_signAhead_61 : decode b_LN_signAhead 61 = .ok (.getfield 19, 3) := by decide +kernel
theorem d_LN_signAhead_64 : decode b_LN_signAhead 64 = .ok (.iload 5, 2) := by decide +kernel
theorem d_LN_signAhead_66 : decode b_LN_signAhead 66 = .ok (.invokevirtual 103, 3) := by decide +kernel
theorem d_LN_signAhead_69 : decode b_LN_signAhead 69 = .ok (.ifCond .eq 6, 3) := by decide +kernel
theorem d_LN_signAhead_72 : decode b_LN_signAhead 72 = .ok (.iload 5, 2) := by decide +kernel
theorem d_LN_signAhead_74 : decode b_LN_signAhead 74 = .ok (.ireturn, 1) := by decide +kernel
theorem d_LN_signAhead_75 : decode b_LN_signAhead 75 = .ok (.iinc 5 1, 3) := by decide +kernel
theorem d_LN_signAhead_78 : decode b_LN_signAhead 78 = .ok (.goto (-54), 3) := by decide +kernel
theorem d_LN_signAhead_81 : decode b_LN_signAhead 81 = .ok (.iload 4, 2) := by decide +kernel
theorem d_LN_signAhead_83 : decode b_LN_signAhead 83 = .ok (.ireturn, 1) := by decide +kernel
end
section
set_option maxHeartbeats 4000000 in
set_option maxRecDepth 100000 in
/-- Ruler.endWith -/
theorem c_endWith (l : Launch) {D : va_G} {ad : Nat → Nat} {cs : pg_C} {M : Nat → Nat → Int} (i n : Nat) (w : Int) (hp : wfP M i n) (ht : wfT M) (hr0 : wfR M) (hw : 0 ≤ w ∧ w ≤ 50000000) : Met l y_RU_endWith ws_RU_endWith ({ frames := 2, cells := 0, slots := 0, locals := 51 } : Room) (va_Pc [.ref (ad (4)), .int (iI (w))] (ro_B D vwCl (pg_tys cs) (pg_w ad cs (some i) M))) (vp_Si (fun r => r = iI (p_ew (p_tabs M i n) (p_rul M) w))) 0 0 (fun _ => False) := by
  refine Met.ofW (cc := b_RU_endWith) (maxL := 3) (ret := (some .int)) (by decide) rfl ?_
  intro p e s m args below meth c s₁ B hml hv
  obtain ⟨rfl, hP, hK⟩ := hv
  have hx := B.exec
  have hb := B.bytes
  have hr := B.returns
  have hts := atoms_spec (ws := ws_RU_endWith) B.pre
  have hg : ∀ w ∈ gt, w.before _ s = true := fun w h => hts w (List.mem_cons_of_mem _ h)
  have hown : s.vm.findClass R_RU = some m.cls := findClass_of_methodNamed B.named
  have hlocks := B.notSynchronized
  have hl := lv_entry ([.ref (ad (4)), .int (iI (w))]) (n := 3) (Nat.le_of_ble_eq_true rfl)
  rw [lg_entry_eq]
  generalize (lg_sl ([.ref (ad (4)), .int (iI (w))]) ++ List.replicate (3 - (lg_sl ([.ref (ad (4)), .int (iI (w))])).length) Slot.unset).toArray = ls at hl ⊢
  have hl : lv_has ls 3 [(0, .ref (ad (4))), (1, .int (iI (w)))] := hl
  obtain ⟨hi, hn, hs, hz, hz2⟩ := hp
  obtain ⟨h43, h44, h45, h46⟩ := hr0
  obtain ⟨-, -, -, -, -, hst⟩ := ht
  have hz3 : ∀ j, zb (M (32 + 4 * i) j) := fun j => ⟨by have := hz2 j; omega, by have := hz2 j; omega⟩
  refine lv_aload_n hx hb d_RU_endWith_0 rfl (lv_at hl 0 rfl) ?_
  refine z_get (ci := 4) (C := R_RU) (T := T_RU) (N := 7) (v := .int (iI (M (4) 3))) hx hb hg in_RU hown hK hP (4) (by decide) rfl rfl 3 (by decide) (hg _ (List.mem_append_right _ (List.mem_append_right _ (List.mem_append_right _ (List.mem_append_left _ (List.mem_of_getElem? (i := 32) rfl)))))) (fun _ h9 => h9) rfl d_RU_endWith_1 ?_
  refine z_if_eq hx hb (tgt := 36) d_RU_endWith_4 (by decide) ⟨by omega, by omega⟩ (fun c_4 => ?_) (fun c_4 => ?_)
  · refine z_iconst hx hb (z := 0) d_RU_endWith_36 ?_
    refine lv_istore_n (lv' := [(2, .int (iI (0))), (0, .ref (ad (4))), (1, .int (iI (w)))]) hx hb d_RU_endWith_37 rfl hl (by decide) rfl (fun ls hl => ?_)
    refine lv_aload_n hx hb d_RU_endWith_38 rfl (lv_at hl 1 rfl) ?_
    refine z_get (ci := 4) (C := R_RU) (T := T_RU) (N := 7) (v := .int (iI (M (4) 4))) hx hb hg in_RU hown hK hP (4) (by decide) rfl rfl 4 (by decide) (hg _ (List.mem_append_right _ (List.mem_append_right _ (List.mem_append_right _ (List.mem_append_left _ (List.mem_of_getElem? (i := 33) rfl)))))) (fun _ h9 => h9) rfl d_RU_endWith_39 ?_
    refine lv_iload_n hx hb d_RU_endWith_42 rfl (lv_at hl 0 rfl) ?_
    refine z_iadd hx hb d_RU_endWith_43 (v := (M (4) 4 + 0)) rfl ?_
    refine lv_iload_n hx hb d_RU_endWith_44 rfl (lv_at hl 2 rfl) ?_
    refine z_iadd hx hb d_RU_endWith_45 (v := ((M (4) 4 + 0) + w)) rfl ?_
    exact W.iret (v := iI (((M (4) 4 + 0) + w))) hx hb hr (fun t ht hW => ⟨_, rfl, by show _ = iI (M 4 4 + (if M 4 3 = 0 then 0 else p_tab n (M (31 + 4 * i)) (M (32 + 4 * i)) (M 4 4) w (M 2 2)) + w); first | rw [if_pos c_4] | rw [if_neg c_4], ht⟩) (fun q h => by cases h) d_RU_endWith_46
  · refine lv_aload_n hx hb d_RU_endWith_7 rfl (lv_at hl 0 rfl) ?_
    refine z_get (ci := 4) (C := R_RU) (T := T_RU) (N := 7) (v := .ref (ad (29 + 4 * i))) hx hb hg in_RU hown hK hP (4) (by decide) rfl rfl 2 (by decide) (hg _ (List.mem_append_right _ (List.mem_append_right _ (List.mem_append_right _ (List.mem_append_left _ (List.mem_of_getElem? (i := 31) rfl)))))) (fun _ h9 => h9) rfl d_RU_endWith_8 ?_
    refine lv_ifnull hx hb d_RU_endWith_11 ?_
    refine lv_aload_n hx hb d_RU_endWith_14 rfl (lv_at hl 0 rfl) ?_
    refine z_get (ci := 4) (C := R_RU) (T := T_RU) (N := 7) (v := .ref (ad (29 + 4 * i))) hx hb hg in_RU hown hK hP (4) (by decide) rfl rfl 2 (by decide) (hg _ (List.mem_append_right _ (List.mem_append_right _ (List.mem_append_right _ (List.mem_append_left _ (List.mem_of_getElem? (i := 31) rfl)))))) (fun _ h9 => h9) rfl d_RU_endWith_15 ?_
    refine lv_aload_n hx hb d_RU_endWith_18 rfl (lv_at hl 0 rfl) ?_
    refine z_get (ci := 4) (C := R_RU) (T := T_RU) (N := 7) (v := .int (iI (M (4) 4))) hx hb hg in_RU hown hK hP (4) (by decide) rfl rfl 4 (by decide) (hg _ (List.mem_append_right _ (List.mem_append_right _ (List.mem_append_right _ (List.mem_append_left _ (List.mem_of_getElem? (i := 33) rfl)))))) (fun _ h9 => h9) rfl d_RU_endWith_19 ?_
    refine lv_iload_n hx hb d_RU_endWith_22 rfl (lv_at hl 1 rfl) ?_
    refine lv_aload_n hx hb d_RU_endWith_23 rfl (lv_at hl 0 rfl) ?_
    refine z_get (ci := 4) (C := R_RU) (T := T_RU) (N := 7) (v := .ref (ad (2))) hx hb hg in_RU hown hK hP (4) (by decide) rfl rfl 1 (by decide) (hg _ (List.mem_append_right _ (List.mem_append_right _ (List.mem_append_right _ (List.mem_append_left _ (List.mem_of_getElem? (i := 30) rfl)))))) (fun _ h9 => h9) rfl d_RU_endWith_24 ?_
    refine z_get (ci := 2) (C := R_SH) (T := T_SH) (N := 3) (v := .int (iI (M (2) 2))) hx hb hg in_SH hown hK hP (2) (by decide) rfl rfl 2 (by decide) (hg _ (List.mem_append_right _ (List.mem_append_right _ (List.mem_append_right _ (List.mem_append_left _ (List.mem_of_getElem? (i := 11) rfl)))))) (fun _ h9 => h9) rfl d_RU_endWith_27 ?_
    refine ro_V (As := [.int (iI (M (4) 4)), .int (iI (w)), .int (iI (M (2) 2))]) (rest := []) (z := p_tab n (M (31 + 4 * i)) (M (32 + 4 * i)) (M 4 4) w (M 2 2)) ⟨hx, hb, hml, hown, hg⟩ (c_tabWidth l i n (M 4 4) w (M 2 2) (by omega) (by omega) hst hi hn hs hz hz3) (cwV 3 hg (gt_V (List.mem_append_right _ (List.mem_append_right _ (List.mem_append_right _ (List.mem_append_right _ (List.mem_append_right _ (List.mem_append_right _ (List.mem_append_right _ (List.mem_append_left _ (List.mem_of_getElem? (i := 16) rfl))))))))) (List.mem_append_right _ (List.mem_append_right _ (List.mem_append_right _ (List.mem_append_right _ (List.mem_append_right _ (List.mem_append_right _ (List.mem_append_left _ (List.mem_of_getElem? (i := 12) rfl)))))))) (List.mem_append_right _ (List.mem_append_right _ (List.mem_append_right _ (List.mem_append_right _ (List.mem_append_right _ (List.mem_append_right _ (List.mem_append_left _ (List.mem_of_getElem? (i := 13) rfl)))))))) (List.mem_append_right _ (List.mem_append_left _ (List.mem_of_getElem? (i := 4) rfl))) (List.mem_append_right _ (List.mem_append_right _ (List.mem_append_right _ (List.mem_append_right _ (List.mem_append_right _ (List.mem_append_right _ (List.mem_append_left _ (List.mem_of_getElem? (i := 14) rfl))))))))) rfl rfl rfl (by decide +kernel) ⟨Nat.le_of_ble_eq_true rfl, Nat.le_of_ble_eq_true rfl⟩) hK hP (va_recv hK hP (ci := 6) (q0 := 29 + 4 * i) rfl (wl_atE (by omega) (pg_par _ _ _ _ _))) rfl hl.1 rfl (Nat.le_of_ble_eq_true rfl) d_RU_endWith_30 ⟨Nat.zero_le _, Nat.zero_le _⟩ ?_
    refine lv_goto (tgt := 37) hx hb d_RU_endWith_33 (by decide) ?_
    refine lv_istore_n (lv' := [(2, .int (iI (p_tab n (M (31 + 4 * i)) (M (32 + 4 * i)) (M 4 4) w (M 2 2)))), (0, .ref (ad (4))), (1, .int (iI (w)))]) hx hb d_RU_endWith_37 rfl hl (by decide) rfl (fun ls hl => ?_)
    refine lv_aload_n hx hb d_RU_endWith_38 rfl (lv_at hl 1 rfl) ?_
    refine z_get (ci := 4) (C := R_RU) (T := T_RU) (N := 7) (v := .int (iI (M (4) 4))) hx hb hg in_RU hown hK hP (4) (by decide) rfl rfl 4 (by decide) (hg _ (List.mem_append_right _ (List.mem_append_right _ (List.mem_append_right _ (List.mem_append_left _ (List.mem_of_getElem? (i := 33) rfl)))))) (fun _ h9 => h9) rfl d_RU_endWith_39 ?_
    refine lv_iload_n hx hb d_RU_endWith_42 rfl (lv_at hl 0 rfl) ?_
    refine z_iadd hx hb d_RU_endWith_43 (v := (M (4) 4 + p_tab n (M (31 + 4 * i)) (M (32 + 4 * i)) (M 4 4) w (M 2 2))) rfl ?_
    refine lv_iload_n hx hb d_RU_endWith_44 rfl (lv_at hl 2 rfl) ?_
    refine z_iadd hx hb d_RU_endWith_45 (v := ((M (4) 4 + p_tab n (M (31 + 4 * i)) (M (32 + 4 * i)) (M 4 4) w (M 2 2)) + w)) rfl ?_
    exact W.iret (v := iI (((M (4) 4 + p_tab n (M (31 + 4 * i)) (M (32 + 4 * i)) (M 4 4) w (M 2 2)) + w))) hx hb hr (fun t ht hW => ⟨_, rfl, by show _ = iI (M 4 4 + (if M 4 3 = 0 then 0 else p_tab n (M (31 + 4 * i)) (M (32 + 4 * i)) (M 4 4) w (M 2 2)) + w); first | rw [if_pos c_4] | rw [if_neg c_4], ht⟩) (fun q h => by cases h) d_RU_endWith_46
set_option maxHeartbeats 4000000 in
set_option maxRecDepth 100000 in
/-- Ruler.leastEnd -/
theorem c_leastEnd (l : Launch) {D : va_G} {ad : Nat → Nat} {cs : pg_C} {M : Nat → Nat → Int} (i n : Nat) (hp : wfP M i n) (ht : wfT M) (hr0 : wfR M) : Met l y_RU_leastEnd ws_RU_leastEnd ({ frames := 3, cells := 0, slots := 0, locals := 73 } : Room) (va_Pc [.ref (ad (4))] (ro_B D vwCl (pg_tys cs) (pg_w ad cs (some i) M))) (vp_Si (fun r => r = iI (p_least (p_tabs M i n) (p_rul M)))) 0 0 (fun _ => False) := by
  refine Met.ofW (cc := b_RU_leastEnd) (maxL := 1) (ret := (some .int)) (by decide) rfl ?_
  intro p e s m args below meth c s₁ B hml hv
  obtain ⟨rfl, hP, hK⟩ := hv
  have hx := B.exec
  have hb := B.bytes
  have hr := B.returns
  have hts := atoms_spec (ws := ws_RU_leastEnd) B.pre
  have hg : ∀ w ∈ gt, w.before _ s = true := fun w h => hts w (List.mem_cons_of_mem _ h)
  have hown : s.vm.findClass R_RU = some m.cls := findClass_of_methodNamed B.named
  have hlocks := B.notSynchronized
  have hl := lv_entry ([.ref (ad (4))]) (n := 1) (Nat.le_of_ble_eq_true rfl)
  rw [lg_entry_eq]
  generalize (lg_sl ([.ref (ad (4))]) ++ List.replicate (1 - (lg_sl ([.ref (ad (4))])).length) Slot.unset).toArray = ls at hl ⊢
  have hl : lv_has ls 1 [(0, .ref (ad (4)))] := hl
  refine lv_aload_n hx hb d_RU_leastEnd_0 rfl (lv_at hl 0 rfl) ?_
  refine lv_aload_n hx hb d_RU_leastEnd_1 rfl (lv_at hl 0 rfl) ?_
  refine z_get (ci := 4) (C := R_RU) (T := T_RU) (N := 7) (v := .int (iI (M (4) 6))) hx hb hg in_RU hown hK hP (4) (by decide) rfl rfl 6 (by decide) (hg _ (List.mem_append_right _ (List.mem_append_right _ (List.mem_append_right _ (List.mem_append_left _ (List.mem_of_getElem? (i := 35) rfl)))))) (fun _ h9 => h9) rfl d_RU_leastEnd_2 ?_
  refine ro_V (As := [.int (iI (M (4) 6))]) (rest := []) (z := p_ew (p_tabs M i n) (p_rul M) (M 4 6)) ⟨hx, hb, hml, hown, hg⟩ (c_endWith l i n (M 4 6) hp ht hr0 (by have := hr0.2.2.2; omega)) (cwV 1 hg (gt_V (List.mem_append_right _ (List.mem_append_right _ (List.mem_append_right _ (List.mem_append_right _ (List.mem_append_right _ (List.mem_append_right _ (List.mem_append_right _ (List.mem_append_left _ (List.mem_of_getElem? (i := 13) rfl))))))))) (List.mem_append_right _ (List.mem_append_right _ (List.mem_append_right _ (List.mem_append_right _ (List.mem_append_right _ (List.mem_append_right _ (List.mem_append_right _ (List.mem_append_left _ (List.mem_of_getElem? (i := 14) rfl))))))))) (List.mem_append_left _ (List.mem_of_getElem? (i := 12) rfl)) (List.mem_append_right _ (List.mem_append_left _ (List.mem_of_getElem? (i := 7) rfl))) (List.mem_append_right _ (List.mem_append_right _ (List.mem_append_right _ (List.mem_append_right _ (List.mem_append_right _ (List.mem_append_right _ (List.mem_append_right _ (List.mem_append_left _ (List.mem_of_getElem? (i := 15) rfl)))))))))) rfl rfl rfl (by decide +kernel) ⟨Nat.le_of_ble_eq_true rfl, Nat.le_of_ble_eq_true rfl⟩) hK hP (va_recv hK hP (ci := 4) (q0 := 4) rfl (wl_atE (by decide) rfl)) rfl hl.1 rfl (Nat.le_of_ble_eq_true rfl) d_RU_leastEnd_5 ⟨Nat.zero_le _, Nat.zero_le _⟩ ?_
  exact W.iret (v := iI (p_ew (p_tabs M i n) (p_rul M) (M 4 6))) hx hb hr (fun t ht hW => ⟨_, rfl, rfl, ht⟩) (fun q h => by cases h) d_RU_leastEnd_8
set_option maxHeartbeats 4000000 in
set_option maxRecDepth 100000 in
/-- Ruler.endBehind -/
theorem c_endBehind (l : Launch) {D : va_G} {ad : Nat → Nat} {cs : pg_C} {M : Nat → Nat → Int} (i n k : Nat) (hk : k < 600) (hp : wfP M i n) (ht : wfT M) (hr0 : wfR M) : Met l y_RU_endBehind ws_RU_endBehind ({ frames := 4, cells := 0, slots := 0, locals := 93 } : Room) (va_Pc [.ref (ad (4)), .int (iI (((k : Nat) : Int)))] (ro_B D vwCl (pg_tys cs) (pg_w ad cs (some i) M))) (vp_Si (fun r => r = iI (p_endb (M 7) (M 8) (p_tabs M i n) (p_rul M) k))) 0 0 (fun _ => False) := by
  refine Met.ofW (cc := b_RU_endBehind) (maxL := 2) (ret := (some .int)) (by decide) rfl ?_
  intro p e s m args below meth c s₁ B hml hv
  obtain ⟨rfl, hP, hK⟩ := hv
  have hx := B.exec
  have hb := B.bytes
  have hr := B.returns
  have hts := atoms_spec (ws := ws_RU_endBehind) B.pre
  have hg : ∀ w ∈ gt, w.before _ s = true := fun w h => hts w (List.mem_cons_of_mem _ h)
  have hown : s.vm.findClass R_RU = some m.cls := findClass_of_methodNamed B.named
  have hlocks := B.notSynchronized
  have hl := lv_entry ([.ref (ad (4)), .int (iI (((k : Nat) : Int)))]) (n := 2) (Nat.le_of_ble_eq_true rfl)
  rw [lg_entry_eq]
  generalize (lg_sl ([.ref (ad (4)), .int (iI (((k : Nat) : Int)))]) ++ List.replicate (2 - (lg_sl ([.ref (ad (4)), .int (iI (((k : Nat) : Int)))])).length) Slot.unset).toArray = ls at hl ⊢
  have hl : lv_has ls 2 [(0, .ref (ad (4))), (1, .int (iI (((k : Nat) : Int))))] := hl
  refine lv_aload_n hx hb d_RU_endBehind_0 rfl (lv_at hl 0 rfl) ?_
  refine z_get (ci := 4) (C := R_RU) (T := T_RU) (N := 7) (v := .ref (ad (1))) hx hb hg in_RU hown hK hP (4) (by decide) rfl rfl 0 (by decide) (hg _ (List.mem_append_right _ (List.mem_append_right _ (List.mem_append_right _ (List.mem_append_left _ (List.mem_of_getElem? (i := 29) rfl)))))) (fun _ h9 => h9) rfl d_RU_endBehind_1 ?_
  refine z_get (ci := 1) (C := R_TX) (T := T_TX) (N := 6) (v := .ref (ad (7))) hx hb hg in_TX hown hK hP (1) (by decide) rfl rfl 1 (by decide) (hg _ (List.mem_append_right _ (List.mem_append_right _ (List.mem_append_left _ (List.mem_of_getElem? (i := 21) rfl))))) (fun _ h9 => h9) rfl d_RU_endBehind_4 ?_
  refine lv_iload_n hx hb d_RU_endBehind_7 rfl (lv_at hl 1 rfl) ?_
  refine z_iald hx hb hK hP (7) 0 (by decide) (fun _ => rfl) rfl (k) rfl (by omega) (by decide) d_RU_endBehind_8 ?_
  refine z_iconst hx hb (z := 4) d_RU_endBehind_9 ?_
  refine z_icmp_ne hx hb (tgt := 34) d_RU_endBehind_10 (by decide) (zb_7 ht _) ⟨by decide, by decide⟩ (fun c_10 => ?_) (fun c_10 => ?_)
  · refine lv_aload_n hx hb d_RU_endBehind_34 rfl (lv_at hl 0 rfl) ?_
    refine ro_V (As := []) (rest := []) (z := p_least (p_tabs M i n) (p_rul M)) ⟨hx, hb, hml, hown, hg⟩ (c_leastEnd l i n hp ht hr0) (cwV 0 hg (gt_V (List.mem_append_right _ (List.mem_append_right _ (List.mem_append_right _ (List.mem_append_right _ (List.mem_append_right _ (List.mem_append_right _ (List.mem_append_right _ (List.mem_append_left _ (List.mem_of_getElem? (i := 27) rfl))))))))) (List.mem_append_right _ (List.mem_append_right _ (List.mem_append_right _ (List.mem_append_right _ (List.mem_append_right _ (List.mem_append_right _ (List.mem_append_right _ (List.mem_append_left _ (List.mem_of_getElem? (i := 28) rfl))))))))) (List.mem_append_right _ (List.mem_append_right _ (List.mem_append_right _ (List.mem_append_right _ (List.mem_append_right _ (List.mem_append_right _ (List.mem_append_right _ (List.mem_append_left _ (List.mem_of_getElem? (i := 29) rfl))))))))) (List.mem_append_right _ (List.mem_append_left _ (List.mem_of_getElem? (i := 7) rfl))) (List.mem_append_right _ (List.mem_append_right _ (List.mem_append_right _ (List.mem_append_right _ (List.mem_append_right _ (List.mem_append_right _ (List.mem_append_right _ (List.mem_append_left _ (List.mem_of_getElem? (i := 30) rfl)))))))))) rfl rfl rfl (by decide +kernel) ⟨Nat.le_of_ble_eq_true rfl, Nat.le_of_ble_eq_true rfl⟩) hK hP (va_recv hK hP (ci := 4) (q0 := 4) rfl (wl_atE (by decide) rfl)) rfl hl.1 rfl (Nat.le_of_ble_eq_true rfl) d_RU_endBehind_35 ⟨Nat.zero_le _, Nat.zero_le _⟩ ?_
    exact W.iret (v := iI (p_least (p_tabs M i n) (p_rul M))) hx hb hr (fun t ht hW => ⟨_, rfl, by unfold p_endb; first | (rw [if_pos (by omega)]; rfl) | (rw [if_neg (by omega)]), ht⟩) (fun q h => by cases h) d_RU_endBehind_38
  · refine lv_aload_n hx hb d_RU_endBehind_13 rfl (lv_at hl 0 rfl) ?_
    refine lv_aload_n hx hb d_RU_endBehind_14 rfl (lv_at hl 0 rfl) ?_
    refine z_get (ci := 4) (C := R_RU) (T := T_RU) (N := 7) (v := .int (iI (M (4) 5))) hx hb hg in_RU hown hK hP (4) (by decide) rfl rfl 5 (by decide) (hg _ (List.mem_append_right _ (List.mem_append_right _ (List.mem_append_right _ (List.mem_append_left _ (List.mem_of_getElem? (i := 34) rfl)))))) (fun _ h9 => h9) rfl d_RU_endBehind_15 ?_
    refine lv_aload_n hx hb d_RU_endBehind_18 rfl (lv_at hl 0 rfl) ?_
    refine z_get (ci := 4) (C := R_RU) (T := T_RU) (N := 7) (v := .ref (ad (1))) hx hb hg in_RU hown hK hP (4) (by decide) rfl rfl 0 (by decide) (hg _ (List.mem_append_right _ (List.mem_append_right _ (List.mem_append_right _ (List.mem_append_left _ (List.mem_of_getElem? (i := 29) rfl)))))) (fun _ h9 => h9) rfl d_RU_endBehind_19 ?_
    refine z_get (ci := 1) (C := R_TX) (T := T_TX) (N := 6) (v := .ref (ad (8))) hx hb hg in_TX hown hK hP (1) (by decide) rfl rfl 2 (by decide) (hg _ (List.mem_append_right _ (List.mem_append_right _ (List.mem_append_left _ (List.mem_of_getElem? (i := 24) rfl))))) (fun _ h9 => h9) rfl d_RU_endBehind_22 ?_
    refine lv_iload_n hx hb d_RU_endBehind_25 rfl (lv_at hl 1 rfl) ?_
    refine z_iald hx hb hK hP (8) 0 (by decide) (fun _ => rfl) rfl (k) rfl (by omega) (by decide) d_RU_endBehind_26 ?_
    refine z_iadd hx hb d_RU_endBehind_27 (v := (M (4) 5 + M (8) (k))) rfl ?_
    refine ro_V (As := [.int (iI ((M (4) 5 + M (8) (k))))]) (rest := []) (z := p_ew (p_tabs M i n) (p_rul M) (M 4 5 + M 8 k)) ⟨hx, hb, hml, hown, hg⟩ (c_endWith l i n (M 4 5 + M 8 k) hp ht hr0 (by have := hr0.2.2.1; have := ht.2.1 k; omega)) (cwV 1 hg (gt_V (List.mem_append_right _ (List.mem_append_right _ (List.mem_append_right _ (List.mem_append_right _ (List.mem_append_right _ (List.mem_append_right _ (List.mem_append_right _ (List.mem_append_left _ (List.mem_of_getElem? (i := 13) rfl))))))))) (List.mem_append_right _ (List.mem_append_right _ (List.mem_append_right _ (List.mem_append_right _ (List.mem_append_right _ (List.mem_append_right _ (List.mem_append_right _ (List.mem_append_left _ (List.mem_of_getElem? (i := 14) rfl))))))))) (List.mem_append_left _ (List.mem_of_getElem? (i := 12) rfl)) (List.mem_append_right _ (List.mem_append_left _ (List.mem_of_getElem? (i := 7) rfl))) (List.mem_append_right _ (List.mem_append_right _ (List.mem_append_right _ (List.mem_append_right _ (List.mem_append_right _ (List.mem_append_right _ (List.mem_append_right _ (List.mem_append_left _ (List.mem_of_getElem? (i := 15) rfl)))))))))) rfl rfl rfl (by decide +kernel) ⟨Nat.le_of_ble_eq_true rfl, Nat.le_of_ble_eq_true rfl⟩) hK hP (va_recv hK hP (ci := 4) (q0 := 4) rfl (wl_atE (by decide) rfl)) rfl hl.1 rfl (Nat.le_of_ble_eq_true rfl) d_RU_endBehind_28 ⟨Nat.zero_le _, Nat.zero_le _⟩ ?_
    refine lv_goto (tgt := 38) hx hb d_RU_endBehind_31 (by decide) ?_
    exact W.iret (v := iI (p_ew (p_tabs M i n) (p_rul M) (M 4 5 + M 8 k))) hx hb hr (fun t ht hW => ⟨_, rfl, by unfold p_endb; first | (rw [if_pos (by omega)]; rfl) | (rw [if_neg (by omega)]), ht⟩) (fun q h => by cases h) d_RU_endBehind_38
set_option maxHeartbeats 4000000 in
set_option maxRecDepth 100000 in
theorem lp_widthsBehindTab {p : Program} {l : Launch} {e : Env} {s : State} {m : MethodId} {args : Array Value} {below : List Frame} {meth : Method} {c : Code} {H : Heap} {locs : List Loc} {Q : State → Prop} {D : va_G} {ad : Nat → Nat} {cs : pg_C} {rp : Option Nat} {M : Nat → Nat → Int} (hx : p.tables.exec = Jvm.exec) (hb : c.code = b_LN_widthsBehindTab) (hml : c.maxLocals = 6) (hg : ∀ w ∈ gt, w.before args s = true) (hown : s.vm.findClass R_LN = some m.cls) (hK : va_K D vwCl (pg_tys cs) s) (hP : va_P D vwCl (pg_w ad cs rp M) H) (tb so b : Nat) (t : Int) (hso : so ≤ 600) (hb6 : b ≤ 600) (ht : wfT M) (kk : ∀ ls : Array Slot, lv_has ls 6 [(4, .int (iI t))] → W p l e ({ frames := 2, cells := 0, slots := 0, locals := 43 } : Room) s m args below meth c H locs 0 0 Q (F0 m 61 ls [])) : ∀ (f i : Nat) (su : Int) (ls : Array Slot), so ≤ i + f → i ≤ 601 → p_wbt (M 7) (M 8) so b f i su = t → lv_has ls 6 [(5, .int (iI (((i : Nat) : Int)))), (4, .int (iI (su))), (0, .ref (ad (3))), (1, .int (iI (((tb : Nat) : Int)))), (2, .int (iI (((so : Nat) : Int)))), (3, .int (iI (((b : Nat) : Int))))] → W p l e ({ frames := 2, cells := 0, slots := 0, locals := 43 } : Room) s m args below meth c H locs 0 0 Q (F0 m 8 ls []) := by
  intro f
  induction f with
  | zero =>
    intro i su ls hf hi6 he hl
    refine lv_iload hx hb d_LN_widthsBehindTab_8 (lv_at hl 0 rfl) ?_
    refine lv_iload_n hx hb d_LN_widthsBehindTab_10 rfl (lv_at hl 4 rfl) ?_
    refine z_icmp_ge hx hb (tgt := 61) d_LN_widthsBehindTab_11 (by decide) ⟨by omega, by omega⟩ ⟨by omega, by omega⟩ (fun c_11 => ?_) (fun c_11 => ?_)
    · have he : su = t := he
      subst he
      exact kk ls (lv_sub hl [1] rfl)
    · exact absurd c_11 (by omega)
  | succ f ih =>
    intro i su ls hf hi6 he hl
    refine lv_iload hx hb d_LN_widthsBehindTab_8 (lv_at hl 0 rfl) ?_
    refine lv_iload_n hx hb d_LN_widthsBehindTab_10 rfl (lv_at hl 4 rfl) ?_
    refine z_icmp_ge hx hb (tgt := 61) d_LN_widthsBehindTab_11 (by decide) ⟨by omega, by omega⟩ ⟨by omega, by omega⟩ (fun c_11 => ?_) (fun c_11 => ?_)
    · have he : su = t := by rw [← he]; unfold p_wbt; rw [if_neg (by omega)]
      subst he
      exact kk ls (lv_sub hl [1] rfl)
    · refine lv_aload_n hx hb d_LN_widthsBehindTab_14 rfl (lv_at hl 2 rfl) ?_
      refine z_get (ci := 3) (C := R_LN) (T := T_LN) (N := 6) (v := .ref (ad (1))) hx hb hg in_LN hown hK hP (3) (by decide) rfl rfl 3 (by decide) (hg _ (List.mem_append_right _ (List.mem_append_right _ (List.mem_append_right _ (List.mem_append_right _ (List.mem_append_left _ (List.mem_of_getElem? (i := 11) rfl))))))) (fun _ h9 => h9) rfl d_LN_widthsBehindTab_15 ?_
      refine z_get (ci := 1) (C := R_TX) (T := T_TX) (N := 6) (v := .ref (ad (7))) hx hb hg in_TX hown hK hP (1) (by decide) rfl rfl 1 (by decide) (hg _ (List.mem_append_right _ (List.mem_append_right _ (List.mem_append_left _ (List.mem_of_getElem? (i := 22) rfl))))) (fun _ h9 => h9) rfl d_LN_widthsBehindTab_18 ?_
      refine lv_iload hx hb d_LN_widthsBehindTab_21 (lv_at hl 0 rfl) ?_
      refine z_iald hx hb hK hP (7) 0 (by decide) (fun _ => rfl) rfl (i) rfl (by omega) (by decide) d_LN_widthsBehindTab_23 ?_
      refine z_iconst hx hb (z := 2) d_LN_widthsBehindTab_24 ?_
      refine z_icmp_eq hx hb (tgt := 61) d_LN_widthsBehindTab_25 (by decide) (zb_7 ht _) ⟨by decide, by decide⟩ (fun c_25 => ?_) (fun c_25 => ?_)
      · have he : su = t := by rw [← he]; unfold p_wbt; rw [if_neg (by omega)]
        subst he
        exact kk ls (lv_sub hl [1] rfl)
      · refine lv_iload hx hb d_LN_widthsBehindTab_28 (lv_at hl 1 rfl) ?_
        refine lv_aload_n hx hb d_LN_widthsBehindTab_30 rfl (lv_at hl 2 rfl) ?_
        refine z_get (ci := 3) (C := R_LN) (T := T_LN) (N := 6) (v := .ref (ad (1))) hx hb hg in_LN hown hK hP (3) (by decide) rfl rfl 3 (by decide) (hg _ (List.mem_append_right _ (List.mem_append_right _ (List.mem_append_right _ (List.mem_append_right _ (List.mem_append_left _ (List.mem_of_getElem? (i := 11) rfl))))))) (fun _ h9 => h9) rfl d_LN_widthsBehindTab_31 ?_
        refine lv_iload hx hb d_LN_widthsBehindTab_34 (lv_at hl 0 rfl) ?_
        refine lv_iload hx hb d_LN_widthsBehindTab_36 (lv_at hl 0 rfl) ?_
        refine lv_iload_n hx hb d_LN_widthsBehindTab_38 rfl (lv_at hl 5 rfl) ?_
        refine z_iconst hx hb (z := 1) d_LN_widthsBehindTab_39 ?_
        refine z_isub hx hb d_LN_widthsBehindTab_40 (v := (((b : Nat) : Int) - 1)) rfl ?_
        refine z_icmp_ne hx hb (tgt := 48) d_LN_widthsBehindTab_41 (by decide) ⟨by omega, by omega⟩ ⟨by omega, by omega⟩ (fun c_41 => ?_) (fun c_41 => ?_)
        · refine z_iconst hx hb (z := 0) d_LN_widthsBehindTab_48 ?_
          refine ro_V (As := [.int (iI (((i : Nat) : Int))), .int (iI (0))]) (rest := [.int (iI (su))]) (z := p_wid (M 7) (M 8) i false) ⟨hx, hb, hml, hown, hg⟩ (c_widthWithin l i false (by omega) (zb_7 ht)) (cwV 2 hg (gt_V (List.mem_append_right _ (List.mem_append_right _ (List.mem_append_right _ (List.mem_append_right _ (List.mem_append_right _ (List.mem_append_right _ (List.mem_append_left _ (List.mem_of_getElem? (i := 7) rfl)))))))) (List.mem_append_right _ (List.mem_append_right _ (List.mem_append_right _ (List.mem_append_right _ (List.mem_append_right _ (List.mem_append_right _ (List.mem_append_left _ (List.mem_of_getElem? (i := 8) rfl)))))))) (List.mem_append_right _ (List.mem_append_right _ (List.mem_append_right _ (List.mem_append_right _ (List.mem_append_right _ (List.mem_append_right _ (List.mem_append_left _ (List.mem_of_getElem? (i := 9) rfl)))))))) (List.mem_append_right _ (List.mem_append_left _ (List.mem_of_getElem? (i := 3) rfl))) (List.mem_append_right _ (List.mem_append_right _ (List.mem_append_right _ (List.mem_append_right _ (List.mem_append_right _ (List.mem_append_right _ (List.mem_append_left _ (List.mem_of_getElem? (i := 10) rfl))))))))) rfl rfl rfl (by decide +kernel) ⟨Nat.le_of_ble_eq_true rfl, Nat.le_of_ble_eq_true rfl⟩) hK hP (va_recv hK hP (ci := 1) (q0 := 1) rfl (wl_atE (by decide) rfl)) rfl hl.1 rfl (Nat.le_of_ble_eq_true rfl) d_LN_widthsBehindTab_49 ⟨Nat.zero_le _, Nat.zero_le _⟩ ?_
          refine z_iadd hx hb d_LN_widthsBehindTab_52 (v := (su + p_wid (M 7) (M 8) i false)) rfl ?_
          refine lv_istore (lv' := [(4, .int (iI ((su + p_wid (M 7) (M 8) i false)))), (5, .int (iI (((i : Nat) : Int)))), (0, .ref (ad (3))), (1, .int (iI (((tb : Nat) : Int)))), (2, .int (iI (((so : Nat) : Int)))), (3, .int (iI (((b : Nat) : Int))))]) hx hb d_LN_widthsBehindTab_53 hl (by decide) rfl (fun ls hl => ?_)
          refine z_iinc (v := ((i + 1 : Nat) : Int)) (lv' := [(5, .int (iI (((i + 1 : Nat) : Int)))), (4, .int (iI ((su + p_wid (M 7) (M 8) i false)))), (0, .ref (ad (3))), (1, .int (iI (((tb : Nat) : Int)))), (2, .int (iI (((so : Nat) : Int)))), (3, .int (iI (((b : Nat) : Int))))]) hx hb d_LN_widthsBehindTab_55 hl (k := 1) rfl (by omega) (by decide) rfl (fun ls hl => ?_)
          refine lv_goto (tgt := 8) hx hb d_LN_widthsBehindTab_58 (by decide) ?_
          exact ih (i + 1) ((su + p_wid (M 7) (M 8) i false)) ls (by omega) (by omega) (by rw [← he]; conv => rhs; unfold p_wbt; rw [if_pos ⟨by omega, by omega⟩, decide_eq_false (show ¬ i + 1 = b by omega)]) hl
        · refine z_iconst hx hb (z := 1) d_LN_widthsBehindTab_44 ?_
          refine lv_goto (tgt := 49) hx hb d_LN_widthsBehindTab_45 (by decide) ?_
          refine ro_V (As := [.int (iI (((i : Nat) : Int))), .int (iI (1))]) (rest := [.int (iI (su))]) (z := p_wid (M 7) (M 8) i true) ⟨hx, hb, hml, hown, hg⟩ (c_widthWithin l i true (by omega) (zb_7 ht)) (cwV 2 hg (gt_V (List.mem_append_right _ (List.mem_append_right _ (List.mem_append_right _ (List.mem_append_right _ (List.mem_append_right _ (List.mem_append_right _ (List.mem_append_left _ (List.mem_of_getElem? (i := 7) rfl)))))))) (List.mem_append_right _ (List.mem_append_right _ (List.mem_append_right _ (List.mem_append_right _ (List.mem_append_right _ (List.mem_append_right _ (List.mem_append_left _ (List.mem_of_getElem? (i := 8) rfl)))))))) (List.mem_append_right _ (List.mem_append_right _ (List.mem_append_right _ (List.mem_append_right _ (List.mem_append_right _ (List.mem_append_right _ (List.mem_append_left _ (List.mem_of_getElem? (i := 9) rfl)))))))) (List.mem_append_right _ (List.mem_append_left _ (List.mem_of_getElem? (i := 3) rfl))) (List.mem_append_right _ (List.mem_append_right _ (List.mem_append_right _ (List.mem_append_right _ (List.mem_append_right _ (List.mem_append_right _ (List.mem_append_left _ (List.mem_of_getElem? (i := 10) rfl))))))))) rfl rfl rfl (by decide +kernel) ⟨Nat.le_of_ble_eq_true rfl, Nat.le_of_ble_eq_true rfl⟩) hK hP (va_recv hK hP (ci := 1) (q0 := 1) rfl (wl_atE (by decide) rfl)) rfl hl.1 rfl (Nat.le_of_ble_eq_true rfl) d_LN_widthsBehindTab_49 ⟨Nat.zero_le _, Nat.zero_le _⟩ ?_
          refine z_iadd hx hb d_LN_widthsBehindTab_52 (v := (su + p_wid (M 7) (M 8) i true)) rfl ?_
          refine lv_istore (lv' := [(4, .int (iI ((su + p_wid (M 7) (M 8) i true)))), (5, .int (iI (((i : Nat) : Int)))), (0, .ref (ad (3))), (1, .int (iI (((tb : Nat) : Int)))), (2, .int (iI (((so : Nat) : Int)))), (3, .int (iI (((b : Nat) : Int))))]) hx hb d_LN_widthsBehindTab_53 hl (by decide) rfl (fun ls hl => ?_)
          refine z_iinc (v := ((i + 1 : Nat) : Int)) (lv' := [(5, .int (iI (((i + 1 : Nat) : Int)))), (4, .int (iI ((su + p_wid (M 7) (M 8) i true)))), (0, .ref (ad (3))), (1, .int (iI (((tb : Nat) : Int)))), (2, .int (iI (((so : Nat) : Int)))), (3, .int (iI (((b : Nat) : Int))))]) hx hb d_LN_widthsBehindTab_55 hl (k := 1) rfl (by omega) (by decide) rfl (fun ls hl => ?_)
          refine lv_goto (tgt := 8) hx hb d_LN_widthsBehindTab_58 (by decide) ?_
          exact ih (i + 1) ((su + p_wid (M 7) (M 8) i true)) ls (by omega) (by omega) (by rw [← he]; conv => rhs; unfold p_wbt; rw [if_pos ⟨by omega, by omega⟩, decide_eq_true (show i + 1 = b by omega)]) hl
set_option maxHeartbeats 4000000 in
set_option maxRecDepth 100000 in
/-- Lines.widthsBehindTab -/
theorem c_widthsBehindTab (l : Launch) {D : va_G} {ad : Nat → Nat} {cs : pg_C} {rp : Option Nat} {M : Nat → Nat → Int} (tb so b : Nat) (htb : tb ≤ 600) (hso : so ≤ 600) (hb6 : b ≤ 600) (ht : wfT M) : Met l y_LN_widthsBehindTab ws_LN_widthsBehindTab ({ frames := 2, cells := 0, slots := 0, locals := 43 } : Room) (va_Pc [.ref (ad (3)), .int (iI (((tb : Nat) : Int))), .int (iI (((so : Nat) : Int))), .int (iI (((b : Nat) : Int)))] (ro_B D vwCl (pg_tys cs) (pg_w ad cs rp M))) (vp_Si (fun r => r = iI (p_wbt (M 7) (M 8) so b (so - (tb + 1)) (tb + 1) 0))) 0 0 (fun _ => False) := by
  refine Met.ofW (cc := b_LN_widthsBehindTab) (maxL := 6) (ret := (some .int)) (by decide) rfl ?_
  intro p e s m args below meth c s₁ B hml hv
  obtain ⟨rfl, hP, hK⟩ := hv
  have hx := B.exec
  have hb := B.bytes
  have hr := B.returns
  have hts := atoms_spec (ws := ws_LN_widthsBehindTab) B.pre
  have hg : ∀ w ∈ gt, w.before _ s = true := fun w h => hts w (List.mem_cons_of_mem _ h)
  have hown : s.vm.findClass R_LN = some m.cls := findClass_of_methodNamed B.named
  have hlocks := B.notSynchronized
  have hl := lv_entry ([.ref (ad (3)), .int (iI (((tb : Nat) : Int))), .int (iI (((so : Nat) : Int))), .int (iI (((b : Nat) : Int)))]) (n := 6) (Nat.le_of_ble_eq_true rfl)
  rw [lg_entry_eq]
  generalize (lg_sl ([.ref (ad (3)), .int (iI (((tb : Nat) : Int))), .int (iI (((so : Nat) : Int))), .int (iI (((b : Nat) : Int)))]) ++ List.replicate (6 - (lg_sl ([.ref (ad (3)), .int (iI (((tb : Nat) : Int))), .int (iI (((so : Nat) : Int))), .int (iI (((b : Nat) : Int)))])).length) Slot.unset).toArray = ls at hl ⊢
  have hl : lv_has ls 6 [(0, .ref (ad (3))), (1, .int (iI (((tb : Nat) : Int)))), (2, .int (iI (((so : Nat) : Int)))), (3, .int (iI (((b : Nat) : Int))))] := hl
  refine z_iconst hx hb (z := 0) d_LN_widthsBehindTab_0 ?_
  refine lv_istore (lv' := [(4, .int (iI (0))), (0, .ref (ad (3))), (1, .int (iI (((tb : Nat) : Int)))), (2, .int (iI (((so : Nat) : Int)))), (3, .int (iI (((b : Nat) : Int))))]) hx hb d_LN_widthsBehindTab_1 hl (by decide) rfl (fun ls hl => ?_)
  refine lv_iload_n hx hb d_LN_widthsBehindTab_3 rfl (lv_at hl 2 rfl) ?_
  refine z_iconst hx hb (z := 1) d_LN_widthsBehindTab_4 ?_
  refine z_iadd hx hb d_LN_widthsBehindTab_5 (v := ((tb + 1 : Nat) : Int)) (by omega) ?_
  refine lv_istore (lv' := [(5, .int (iI (((tb + 1 : Nat) : Int)))), (4, .int (iI (0))), (0, .ref (ad (3))), (1, .int (iI (((tb : Nat) : Int)))), (2, .int (iI (((so : Nat) : Int)))), (3, .int (iI (((b : Nat) : Int))))]) hx hb d_LN_widthsBehindTab_6 hl (by decide) rfl (fun ls hl => ?_)
  refine lp_widthsBehindTab hx hb hml hg hown hK hP tb so b _ hso hb6 ht (fun ls hl => ?_) (so - (tb + 1)) (tb + 1) 0 ls (by omega) (by omega) rfl hl
  refine lv_iload hx hb d_LN_widthsBehindTab_61 (lv_at hl 0 rfl) ?_
  exact W.iret (v := iI (p_wbt (M 7) (M 8) so b (so - (tb + 1)) (tb + 1) 0)) hx hb hr (fun t ht hW => ⟨_, rfl, rfl, ht⟩) (fun q h => by cases h) d_LN_widthsBehindTab_63
set_option maxHeartbeats 4000000 in
set_option maxRecDepth 100000 in
theorem lp_heightOf {p : Program} {l : Launch} {e : Env} {s : State} {m : MethodId} {args : Array Value} {below : List Frame} {meth : Method} {c : Code} {H : Heap} {locs : List Loc} {Q : State → Prop} {D : va_G} {ad : Nat → Nat} {cs : pg_C} {rp : Option Nat} {M : Nat → Nat → Int} (hx : p.tables.exec = Jvm.exec) (hb : c.code = b_LN_heightOf) (hml : c.maxLocals = 6) (hg : ∀ w ∈ gt, w.before args s = true) (hown : s.vm.findClass R_LN = some m.cls) (hK : va_K D vwCl (pg_tys cs) s) (hP : va_P D vwCl (pg_w ad cs rp M) H) (q a b : Nat) (t : Int) (hb6 : b ≤ 600) (ht : wfT M) (kk : ∀ ls : Array Slot, lv_has ls 6 [(4, .int (iI t))] → W p l e ({ frames := 1, cells := 0, slots := 0, locals := 24 } : Room) s m args below meth c H locs 0 0 Q (F0 m 41 ls [])) : ∀ (f i : Nat) (h : Int) (ls : Array Slot), b ≤ i + f → i ≤ 601 → 0 ≤ h ∧ h ≤ 2000 → p_hgt (M 9) b f i h = t → lv_has ls 6 [(5, .int (iI (((i : Nat) : Int)))), (4, .int (iI (h))), (0, .ref (ad (3))), (1, .ref (ad (29 + 4 * q))), (2, .int (iI (((a : Nat) : Int)))), (3, .int (iI (((b : Nat) : Int))))] → W p l e ({ frames := 1, cells := 0, slots := 0, locals := 24 } : Room) s m args below meth c H locs 0 0 Q (F0 m 12 ls []) := by
  intro f
  induction f with
  | zero =>
    intro i h ls hf hi6 hh he hl
    have h9 := ht.2.2.1 i
    refine lv_iload hx hb d_LN_heightOf_12 (lv_at hl 0 rfl) ?_
    refine lv_iload_n hx hb d_LN_heightOf_14 rfl (lv_at hl 5 rfl) ?_
    refine z_icmp_ge hx hb (tgt := 41) d_LN_heightOf_15 (by decide) ⟨by omega, by omega⟩ ⟨by omega, by omega⟩ (fun c_15 => ?_) (fun c_15 => ?_)
    · have he : h = t := he
      subst he
      exact kk ls (lv_sub hl [1] rfl)
    · exact absurd c_15 (by omega)
  | succ f ih =>
    intro i h ls hf hi6 hh he hl
    have h9 := ht.2.2.1 i
    refine lv_iload hx hb d_LN_heightOf_12 (lv_at hl 0 rfl) ?_
    refine lv_iload_n hx hb d_LN_heightOf_14 rfl (lv_at hl 5 rfl) ?_
    refine z_icmp_ge hx hb (tgt := 41) d_LN_heightOf_15 (by decide) ⟨by omega, by omega⟩ ⟨by omega, by omega⟩ (fun c_15 => ?_) (fun c_15 => ?_)
    · have he : h = t := by rw [← he]; unfold p_hgt; rw [if_neg (by omega)]
      subst he
      exact kk ls (lv_sub hl [1] rfl)
    · refine lv_iload hx hb d_LN_heightOf_18 (lv_at hl 1 rfl) ?_
      refine lv_aload_n hx hb d_LN_heightOf_20 rfl (lv_at hl 2 rfl) ?_
      refine z_get (ci := 3) (C := R_LN) (T := T_LN) (N := 6) (v := .ref (ad (1))) hx hb hg in_LN hown hK hP (3) (by decide) rfl rfl 3 (by decide) (hg _ (List.mem_append_right _ (List.mem_append_right _ (List.mem_append_right _ (List.mem_append_right _ (List.mem_append_left _ (List.mem_of_getElem? (i := 11) rfl))))))) (fun _ h9 => h9) rfl d_LN_heightOf_21 ?_
      refine z_get (ci := 1) (C := R_TX) (T := T_TX) (N := 6) (v := .ref (ad (9))) hx hb hg in_TX hown hK hP (1) (by decide) rfl rfl 3 (by decide) (hg _ (List.mem_append_right _ (List.mem_append_right _ (List.mem_append_left _ (List.mem_of_getElem? (i := 26) rfl))))) (fun _ h9 => h9) rfl d_LN_heightOf_24 ?_
      refine lv_iload hx hb d_LN_heightOf_27 (lv_at hl 0 rfl) ?_
      refine z_iald hx hb hK hP (9) 0 (by decide) (fun _ => rfl) rfl (i) rfl (by omega) (by decide) d_LN_heightOf_29 ?_
      refine z_mmax hx hb (hml.trans hl.1.symm) hown (hg _ (List.mem_append_right _ (List.mem_append_right _ (List.mem_append_right _ (List.mem_append_right _ (List.mem_append_right _ (List.mem_append_left _ (List.mem_of_getElem? (i := 27) rfl)))))))) (hg _ (List.mem_append_right _ (List.mem_append_right _ (List.mem_append_right _ (List.mem_append_right _ (List.mem_append_right _ (List.mem_append_left _ (List.mem_of_getElem? (i := 28) rfl)))))))) (hg _ (List.mem_append_right _ (List.mem_append_left _ (List.mem_of_getElem? (i := 17) rfl)))) (hg _ (List.mem_append_right _ (List.mem_append_right _ (List.mem_append_right _ (List.mem_append_right _ (List.mem_append_right _ (List.mem_append_left _ (List.mem_of_getElem? (i := 29) rfl)))))))) (Nat.le_of_ble_eq_true rfl) (Nat.le_of_ble_eq_true rfl) (Nat.zero_le _) (Nat.zero_le _) ⟨by omega, by omega⟩ ⟨by omega, by omega⟩ d_LN_heightOf_30 (v := max (h) (M (9) (i))) rfl ?_
      refine lv_istore (lv' := [(4, .int (iI (max (h) (M (9) (i))))), (5, .int (iI (((i : Nat) : Int)))), (0, .ref (ad (3))), (1, .ref (ad (29 + 4 * q))), (2, .int (iI (((a : Nat) : Int)))), (3, .int (iI (((b : Nat) : Int))))]) hx hb d_LN_heightOf_33 hl (by decide) rfl (fun ls hl => ?_)
      refine z_iinc (v := ((i + 1 : Nat) : Int)) (lv' := [(5, .int (iI (((i + 1 : Nat) : Int)))), (4, .int (iI (max (h) (M (9) (i))))), (0, .ref (ad (3))), (1, .ref (ad (29 + 4 * q))), (2, .int (iI (((a : Nat) : Int)))), (3, .int (iI (((b : Nat) : Int))))]) hx hb d_LN_heightOf_35 hl (k := 1) rfl (by omega) (by decide) rfl (fun ls hl => ?_)
      refine lv_goto (tgt := 12) hx hb d_LN_heightOf_38 (by decide) ?_
      exact ih (i + 1) (max (h) (M (9) (i))) ls (by omega) (by omega) (by omega) (by rw [← he]; conv => rhs; unfold p_hgt; rw [if_pos (by omega)]) hl
set_option maxHeartbeats 4000000 in
set_option maxRecDepth 100000 in
/-- Lines.heightOf -/
theorem c_heightOf (l : Launch) {D : va_G} {ad : Nat → Nat} {cs : pg_C} {rp : Option Nat} {M : Nat → Nat → Int} (q a b : Nat) (ha6 : a ≤ 600) (hq : q < 30) (hb6 : b ≤ 600) (ht : wfT M) (hh : 0 ≤ M (30 + 4 * q) 10 ∧ M (30 + 4 * q) 10 ≤ 2000) : Met l y_LN_heightOf ws_LN_heightOf ({ frames := 1, cells := 0, slots := 0, locals := 24 } : Room) (va_Pc [.ref (ad (3)), .ref (ad (29 + 4 * q)), .int (iI (((a : Nat) : Int))), .int (iI (((b : Nat) : Int)))] (ro_B D vwCl (pg_tys cs) (pg_w ad cs rp M))) (vp_Si (fun r => r = iI (p_hgt (M 9) b (b - a) a (M (30 + 4 * q) 10)))) 0 0 (fun _ => False) := by
  refine Met.ofW (cc := b_LN_heightOf) (maxL := 6) (ret := (some .int)) (by decide) rfl ?_
  intro p e s m args below meth c s₁ B hml hv
  obtain ⟨rfl, hP, hK⟩ := hv
  have hx := B.exec
  have hb := B.bytes
  have hr := B.returns
  have hts := atoms_spec (ws := ws_LN_heightOf) B.pre
  have hg : ∀ w ∈ gt, w.before _ s = true := fun w h => hts w (List.mem_cons_of_mem _ h)
  have hown : s.vm.findClass R_LN = some m.cls := findClass_of_methodNamed B.named
  have hlocks := B.notSynchronized
  have hl := lv_entry ([.ref (ad (3)), .ref (ad (29 + 4 * q)), .int (iI (((a : Nat) : Int))), .int (iI (((b : Nat) : Int)))]) (n := 6) (Nat.le_of_ble_eq_true rfl)
  rw [lg_entry_eq]
  generalize (lg_sl ([.ref (ad (3)), .ref (ad (29 + 4 * q)), .int (iI (((a : Nat) : Int))), .int (iI (((b : Nat) : Int)))]) ++ List.replicate (6 - (lg_sl ([.ref (ad (3)), .ref (ad (29 + 4 * q)), .int (iI (((a : Nat) : Int))), .int (iI (((b : Nat) : Int)))])).length) Slot.unset).toArray = ls at hl ⊢
  have hl : lv_has ls 6 [(0, .ref (ad (3))), (1, .ref (ad (29 + 4 * q))), (2, .int (iI (((a : Nat) : Int)))), (3, .int (iI (((b : Nat) : Int))))] := hl
  refine lv_aload_n hx hb d_LN_heightOf_0 rfl (lv_at hl 1 rfl) ?_
  refine z_get (ci := 6) (C := R_PA) (T := T_PA) (N := 6) (v := .ref (ad (30 + 4 * q))) hx hb hg in_PA hown hK hP (29 + 4 * q) (by omega) (pg_par _ _ _ _ _) rfl 0 (by decide) (hg _ (List.mem_append_right _ (List.mem_append_left _ (List.mem_of_getElem? (i := 38) rfl)))) (fun _ h9 => h9) rfl d_LN_heightOf_1 ?_
  refine z_bipush hx hb (z := 10) d_LN_heightOf_4 (by decide) ?_
  refine z_iald hx hb hK hP (30 + 4 * q) 0 (by omega) (fun r => pg_shp _ _ _ _ r) rfl (10) rfl (by decide) (by decide) d_LN_heightOf_6 ?_
  refine lv_istore (lv' := [(4, .int (iI (M (30 + 4 * q) (10)))), (0, .ref (ad (3))), (1, .ref (ad (29 + 4 * q))), (2, .int (iI (((a : Nat) : Int)))), (3, .int (iI (((b : Nat) : Int))))]) hx hb d_LN_heightOf_7 hl (by decide) rfl (fun ls hl => ?_)
  refine lv_iload_n hx hb d_LN_heightOf_9 rfl (lv_at hl 3 rfl) ?_
  refine lv_istore (lv' := [(5, .int (iI (((a : Nat) : Int)))), (4, .int (iI (M (30 + 4 * q) (10)))), (0, .ref (ad (3))), (1, .ref (ad (29 + 4 * q))), (2, .int (iI (((a : Nat) : Int)))), (3, .int (iI (((b : Nat) : Int))))]) hx hb d_LN_heightOf_10 hl (by decide) rfl (fun ls hl => ?_)
  refine lp_heightOf hx hb hml hg hown hK hP q a b _ hb6 ht (fun ls hl => ?_) (b - a) a (M (30 + 4 * q) 10) ls (by omega) (by omega) hh rfl hl
  refine lv_iload hx hb d_LN_heightOf_41 (lv_at hl 0 rfl) ?_
  exact W.iret (v := iI (p_hgt (M 9) b (b - a) a (M (30 + 4 * q) 10))) hx hb hr (fun t ht hW => ⟨_, rfl, rfl, ht⟩) (fun q h => by cases h) d_LN_heightOf_43
set_option maxHeartbeats 4000000 in
set_option maxRecDepth 100000 in
theorem lp_signBehindLastTab {p : Program} {l : Launch} {e : Env} {s : State} {m : MethodId} {args : Array Value} {below : List Frame} {meth : Method} {c : Code} {H : Heap} {locs : List Loc} {Q : State → Prop} {D : va_G} {ad : Nat → Nat} {cs : pg_C} {rp : Option Nat} {M : Nat → Nat → Int} (hx : p.tables.exec = Jvm.exec) (hb : c.code = b_LN_signBehindLastTab) (hml : c.maxLocals = 4) (hg : ∀ w ∈ gt, w.before args s = true) (hown : s.vm.findClass R_LN = some m.cls) (hK : va_K D vwCl (pg_tys cs) s) (hP : va_P D vwCl (pg_w ad cs rp M) H) (a b t : Nat) (ha : a ≤ 600) (ht : wfT M) (kk : ∀ ls : Array Slot, lv_has ls 4 [(3, .int (iI ((t : Nat) : Int)))] → W p l e ({ frames := 0, cells := 0, slots := 0, locals := 0 } : Room) s m args below meth c H locs 0 0 Q (F0 m 28 ls [])) : ∀ (f : Nat) (ls : Array Slot), f ≤ 600 → p_blt (M 7) a f = t → lv_has ls 4 [(3, .int (iI (((f : Nat) : Int)))), (0, .ref (ad (3))), (1, .int (iI (((a : Nat) : Int)))), (2, .int (iI (((b : Nat) : Int))))] → W p l e ({ frames := 0, cells := 0, slots := 0, locals := 0 } : Room) s m args below meth c H locs 0 0 Q (F0 m 2 ls []) := by
  intro f
  induction f with
  | zero =>
    intro ls hf he hl
    refine lv_iload_n hx hb d_LN_signBehindLastTab_2 rfl (lv_at hl 0 rfl) ?_
    refine lv_iload_n hx hb d_LN_signBehindLastTab_3 rfl (lv_at hl 2 rfl) ?_
    refine z_icmp_le hx hb (tgt := 28) d_LN_signBehindLastTab_4 (by decide) ⟨by omega, by omega⟩ ⟨by omega, by omega⟩ (fun c_4 => ?_) (fun c_4 => ?_)
    · have he : 0 = t := he
      subst he
      exact kk ls (lv_sub hl [0] rfl)
    · exact absurd c_4 (by omega)
  | succ f ih =>
    intro ls hf he hl
    refine lv_iload_n hx hb d_LN_signBehindLastTab_2 rfl (lv_at hl 0 rfl) ?_
    refine lv_iload_n hx hb d_LN_signBehindLastTab_3 rfl (lv_at hl 2 rfl) ?_
    refine z_icmp_le hx hb (tgt := 28) d_LN_signBehindLastTab_4 (by decide) ⟨by omega, by omega⟩ ⟨by omega, by omega⟩ (fun c_4 => ?_) (fun c_4 => ?_)
    · have he : f + 1 = t := by rw [← he]; unfold p_blt; rw [if_neg (by omega)]
      subst he
      exact kk ls (lv_sub hl [0] rfl)
    · refine lv_aload_n hx hb d_LN_signBehindLastTab_7 rfl (lv_at hl 1 rfl) ?_
      refine z_get (ci := 3) (C := R_LN) (T := T_LN) (N := 6) (v := .ref (ad (1))) hx hb hg in_LN hown hK hP (3) (by decide) rfl rfl 3 (by decide) (hg _ (List.mem_append_right _ (List.mem_append_right _ (List.mem_append_right _ (List.mem_append_right _ (List.mem_append_left _ (List.mem_of_getElem? (i := 11) rfl))))))) (fun _ h9 => h9) rfl d_LN_signBehindLastTab_8 ?_
      refine z_get (ci := 1) (C := R_TX) (T := T_TX) (N := 6) (v := .ref (ad (7))) hx hb hg in_TX hown hK hP (1) (by decide) rfl rfl 1 (by decide) (hg _ (List.mem_append_right _ (List.mem_append_right _ (List.mem_append_left _ (List.mem_of_getElem? (i := 22) rfl))))) (fun _ h9 => h9) rfl d_LN_signBehindLastTab_11 ?_
      refine lv_iload_n hx hb d_LN_signBehindLastTab_14 rfl (lv_at hl 0 rfl) ?_
      refine z_iconst hx hb (z := 1) d_LN_signBehindLastTab_15 ?_
      refine z_isub hx hb d_LN_signBehindLastTab_16 (v := ((f : Nat) : Int)) (by omega) ?_
      refine z_iald hx hb hK hP (7) 0 (by decide) (fun _ => rfl) rfl (f) rfl (by omega) (by decide) d_LN_signBehindLastTab_17 ?_
      refine z_iconst hx hb (z := 2) d_LN_signBehindLastTab_18 ?_
      refine z_icmp_eq hx hb (tgt := 28) d_LN_signBehindLastTab_19 (by decide) (zb_7 ht _) ⟨by decide, by decide⟩ (fun c_19 => ?_) (fun c_19 => ?_)
      · have he : f + 1 = t := by rw [← he]; unfold p_blt; rw [if_neg (by omega)]
        subst he
        exact kk ls (lv_sub hl [0] rfl)
      · refine z_iinc (v := ((f : Nat) : Int)) (lv' := [(3, .int (iI (((f : Nat) : Int)))), (0, .ref (ad (3))), (1, .int (iI (((a : Nat) : Int)))), (2, .int (iI (((b : Nat) : Int))))]) hx hb d_LN_signBehindLastTab_22 hl (k := 0) rfl (by omega) (by decide) rfl (fun ls hl => ?_)
        refine lv_goto (tgt := 2) hx hb d_LN_signBehindLastTab_25 (by decide) ?_
        exact ih ls (by omega) (by rw [← he]; conv => rhs; unfold p_blt; rw [if_pos ⟨by omega, by omega⟩]) hl
set_option maxHeartbeats 4000000 in
set_option maxRecDepth 100000 in
/-- Lines.signBehindLastTab -/
theorem c_signBehindLastTab (l : Launch) {D : va_G} {ad : Nat → Nat} {cs : pg_C} {rp : Option Nat} {M : Nat → Nat → Int} (a b : Nat) (ha : a ≤ 600) (hb6 : b ≤ 600) (ht : wfT M) : Met l y_LN_signBehindLastTab ws_LN_signBehindLastTab ({ frames := 0, cells := 0, slots := 0, locals := 0 } : Room) (va_Pc [.ref (ad (3)), .int (iI (((a : Nat) : Int))), .int (iI (((b : Nat) : Int)))] (ro_B D vwCl (pg_tys cs) (pg_w ad cs rp M))) (vp_Si (fun r => r = iI (((p_blt (M 7) a b : Nat) : Int)))) 0 0 (fun _ => False) := by
  refine Met.ofW (cc := b_LN_signBehindLastTab) (maxL := 4) (ret := (some .int)) (by decide) rfl ?_
  intro p e s m args below meth c s₁ B hml hv
  obtain ⟨rfl, hP, hK⟩ := hv
  have hx := B.exec
  have hb := B.bytes
  have hr := B.returns
  have hts := atoms_spec (ws := ws_LN_signBehindLastTab) B.pre
  have hg : ∀ w ∈ gt, w.before _ s = true := fun w h => hts w (List.mem_cons_of_mem _ h)
  have hown : s.vm.findClass R_LN = some m.cls := findClass_of_methodNamed B.named
  have hlocks := B.notSynchronized
  have hl := lv_entry ([.ref (ad (3)), .int (iI (((a : Nat) : Int))), .int (iI (((b : Nat) : Int)))]) (n := 4) (Nat.le_of_ble_eq_true rfl)
  rw [lg_entry_eq]
  generalize (lg_sl ([.ref (ad (3)), .int (iI (((a : Nat) : Int))), .int (iI (((b : Nat) : Int)))]) ++ List.replicate (4 - (lg_sl ([.ref (ad (3)), .int (iI (((a : Nat) : Int))), .int (iI (((b : Nat) : Int)))])).length) Slot.unset).toArray = ls at hl ⊢
  have hl : lv_has ls 4 [(0, .ref (ad (3))), (1, .int (iI (((a : Nat) : Int)))), (2, .int (iI (((b : Nat) : Int))))] := hl
  refine lv_iload_n hx hb d_LN_signBehindLastTab_0 rfl (lv_at hl 2 rfl) ?_
  refine lv_istore_n (lv' := [(3, .int (iI (((b : Nat) : Int)))), (0, .ref (ad (3))), (1, .int (iI (((a : Nat) : Int)))), (2, .int (iI (((b : Nat) : Int))))]) hx hb d_LN_signBehindLastTab_1 rfl hl (by decide) rfl (fun ls hl => ?_)
  refine lp_signBehindLastTab hx hb hml hg hown hK hP a b _ ha ht (fun ls hl => ?_) b ls hb6 rfl hl
  refine lv_iload_n hx hb d_LN_signBehindLastTab_28 rfl (lv_at hl 0 rfl) ?_
  exact W.iret (v := iI (((p_blt (M 7) a b : Nat) : Int))) hx hb hr (fun t ht hW => ⟨_, rfl, rfl, ht⟩) (fun q h => by cases h) d_LN_signBehindLastTab_29
set_option maxHeartbeats 4000000 in
set_option maxRecDepth 100000 in
/-- Lines.isFirstOfParagraph -/
theorem c_isFirst (l : Launch) {D : va_G} {ad : Nat → Nat} {cs : pg_C} {rp : Option Nat} {M : Nat → Nat → Int} (w : Nat) (hw : w < 630) (hz : ∀ j, zb (M 13 j)) : Met l y_LN_isFirstOfParagraph ws_LN_isFirstOfParagraph ({ frames := 0, cells := 0, slots := 0, locals := 0 } : Room) (va_Pc [.ref (ad (3)), .int (iI (((w : Nat) : Int)))] (ro_B D vwCl (pg_tys cs) (pg_w ad cs rp M))) (vp_Si (fun r => r = iI (bz (p_first (M 13) w) inferInstance))) 0 0 (fun _ => False) := by
  refine Met.ofW (cc := b_LN_isFirstOfParagraph) (maxL := 2) (ret := (some .boolean)) (by decide) rfl ?_
  intro p e s m args below meth c s₁ B hml hv
  obtain ⟨rfl, hP, hK⟩ := hv
  have hx := B.exec
  have hb := B.bytes
  have hr := B.returns
  have hts := atoms_spec (ws := ws_LN_isFirstOfParagraph) B.pre
  have hg : ∀ w ∈ gt, w.before _ s = true := fun w h => hts w (List.mem_cons_of_mem _ h)
  have hown : s.vm.findClass R_LN = some m.cls := findClass_of_methodNamed B.named
  have hlocks := B.notSynchronized
  have hl := lv_entry ([.ref (ad (3)), .int (iI (((w : Nat) : Int)))]) (n := 2) (Nat.le_of_ble_eq_true rfl)
  rw [lg_entry_eq]
  generalize (lg_sl ([.ref (ad (3)), .int (iI (((w : Nat) : Int)))]) ++ List.replicate (2 - (lg_sl ([.ref (ad (3)), .int (iI (((w : Nat) : Int)))])).length) Slot.unset).toArray = ls at hl ⊢
  have hl : lv_has ls 2 [(0, .ref (ad (3))), (1, .int (iI (((w : Nat) : Int))))] := hl
  refine lv_iload_n hx hb d_LN_isFirstOfParagraph_0 rfl (lv_at hl 1 rfl) ?_
  refine z_iconst hx hb (z := 1) d_LN_isFirstOfParagraph_1 ?_
  refine z_icmp_lt hx hb (tgt := 26) d_LN_isFirstOfParagraph_2 (by decide) ⟨by omega, by omega⟩ ⟨by decide, by decide⟩ (fun c_2 => ?_) (fun c_2 => ?_)
  · refine z_iconst hx hb (z := 1) d_LN_isFirstOfParagraph_26 ?_
    refine lv_goto (tgt := 31) hx hb d_LN_isFirstOfParagraph_27 (by decide) ?_
    exact W.zret (v := iI (1)) hx hb hr (by first | rfl | decide) (fun t ht hW => ⟨_, rfl, by first | (rw [bz_t (by omega)]; done) | (rw [bz_f (by omega)]; done), ht⟩) (fun q h => by cases h) d_LN_isFirstOfParagraph_31
  · refine lv_aload_n hx hb d_LN_isFirstOfParagraph_5 rfl (lv_at hl 0 rfl) ?_
    refine z_get (ci := 3) (C := R_LN) (T := T_LN) (N := 6) (v := .ref (ad (10))) hx hb hg in_LN hown hK hP (3) (by decide) rfl rfl 0 (by decide) (hg _ (List.mem_append_right _ (List.mem_append_right _ (List.mem_append_right _ (List.mem_append_right _ (List.mem_append_left _ (List.mem_of_getElem? (i := 3) rfl))))))) (fun _ h9 => h9) rfl d_LN_isFirstOfParagraph_6 ?_
    refine z_iconst hx hb (z := 0) d_LN_isFirstOfParagraph_9 ?_
    refine z_aald hx hb hK hP (10) 1 (by decide) (fun _ => rfl) rfl rfl (0) rfl (by decide) (by decide) d_LN_isFirstOfParagraph_10 ?_
    refine lv_iload_n hx hb d_LN_isFirstOfParagraph_11 rfl (lv_at hl 1 rfl) ?_
    refine z_iconst hx hb (z := 1) d_LN_isFirstOfParagraph_12 ?_
    refine z_isub hx hb d_LN_isFirstOfParagraph_13 (v := (((w : Nat) : Int) - 1)) rfl ?_
    refine z_iald hx hb hK hP (13) 0 (by decide) (fun _ => rfl) rfl (w - 1) (by omega) (by omega) (by decide) d_LN_isFirstOfParagraph_14 ?_
    refine lv_aload_n hx hb d_LN_isFirstOfParagraph_15 rfl (lv_at hl 0 rfl) ?_
    refine z_get (ci := 3) (C := R_LN) (T := T_LN) (N := 6) (v := .ref (ad (10))) hx hb hg in_LN hown hK hP (3) (by decide) rfl rfl 0 (by decide) (hg _ (List.mem_append_right _ (List.mem_append_right _ (List.mem_append_right _ (List.mem_append_right _ (List.mem_append_left _ (List.mem_of_getElem? (i := 3) rfl))))))) (fun _ h9 => h9) rfl d_LN_isFirstOfParagraph_16 ?_
    refine z_iconst hx hb (z := 0) d_LN_isFirstOfParagraph_19 ?_
    refine z_aald hx hb hK hP (10) 1 (by decide) (fun _ => rfl) rfl rfl (0) rfl (by decide) (by decide) d_LN_isFirstOfParagraph_20 ?_
    refine lv_iload_n hx hb d_LN_isFirstOfParagraph_21 rfl (lv_at hl 1 rfl) ?_
    refine z_iald hx hb hK hP (13) 0 (by decide) (fun _ => rfl) rfl (w) rfl (by omega) (by decide) d_LN_isFirstOfParagraph_22 ?_
    refine z_icmp_eq hx hb (tgt := 30) d_LN_isFirstOfParagraph_23 (by decide) (hz _) (hz _) (fun c_23 => ?_) (fun c_23 => ?_)
    · refine z_iconst hx hb (z := 0) d_LN_isFirstOfParagraph_30 ?_
      exact W.zret (v := iI (0)) hx hb hr (by first | rfl | decide) (fun t ht hW => ⟨_, rfl, by first | (rw [bz_t (by omega)]; done) | (rw [bz_f (by omega)]; done), ht⟩) (fun q h => by cases h) d_LN_isFirstOfParagraph_31
    · refine z_iconst hx hb (z := 1) d_LN_isFirstOfParagraph_26 ?_
      refine lv_goto (tgt := 31) hx hb d_LN_isFirstOfParagraph_27 (by decide) ?_
      exact W.zret (v := iI (1)) hx hb hr (by first | rfl | decide) (fun t ht hW => ⟨_, rfl, by first | (rw [bz_t (by omega)]; done) | (rw [bz_f (by omega)]; done), ht⟩) (fun q h => by cases h) d_LN_isFirstOfParagraph_31
set_option maxHeartbeats 4000000 in
set_option maxRecDepth 100000 in
/-- Lines.isLastOfParagraph -/
theorem c_isLast (l : Launch) {D : va_G} {ad : Nat → Nat} {cs : pg_C} {rp : Option Nat} {M : Nat → Nat → Int} (w nl : Nat) (hw : w < 630) (hl6 : nl ≤ 630) (hn : M 3 2 = ((nl : Nat) : Int)) (hz : ∀ j, zb (M 13 j)) : Met l y_LN_isLastOfParagraph ws_LN_isLastOfParagraph ({ frames := 0, cells := 0, slots := 0, locals := 0 } : Room) (va_Pc [.ref (ad (3)), .int (iI (((w : Nat) : Int)))] (ro_B D vwCl (pg_tys cs) (pg_w ad cs rp M))) (vp_Si (fun r => r = iI (bz (p_lastl (M 13) nl w) inferInstance))) 0 0 (fun _ => False) := by
  refine Met.ofW (cc := b_LN_isLastOfParagraph) (maxL := 2) (ret := (some .boolean)) (by decide) rfl ?_
  intro p e s m args below meth c s₁ B hml hv
  obtain ⟨rfl, hP, hK⟩ := hv
  have hx := B.exec
  have hb := B.bytes
  have hr := B.returns
  have hts := atoms_spec (ws := ws_LN_isLastOfParagraph) B.pre
  have hg : ∀ w ∈ gt, w.before _ s = true := fun w h => hts w (List.mem_cons_of_mem _ h)
  have hown : s.vm.findClass R_LN = some m.cls := findClass_of_methodNamed B.named
  have hlocks := B.notSynchronized
  have hl := lv_entry ([.ref (ad (3)), .int (iI (((w : Nat) : Int)))]) (n := 2) (Nat.le_of_ble_eq_true rfl)
  rw [lg_entry_eq]
  generalize (lg_sl ([.ref (ad (3)), .int (iI (((w : Nat) : Int)))]) ++ List.replicate (2 - (lg_sl ([.ref (ad (3)), .int (iI (((w : Nat) : Int)))])).length) Slot.unset).toArray = ls at hl ⊢
  have hl : lv_has ls 2 [(0, .ref (ad (3))), (1, .int (iI (((w : Nat) : Int))))] := hl
  refine lv_iload_n hx hb d_LN_isLastOfParagraph_0 rfl (lv_at hl 1 rfl) ?_
  refine lv_aload_n hx hb d_LN_isLastOfParagraph_1 rfl (lv_at hl 0 rfl) ?_
  refine z_get (ci := 3) (C := R_LN) (T := T_LN) (N := 6) (v := .int (iI (M (3) 2))) hx hb hg in_LN hown hK hP (3) (by decide) rfl rfl 2 (by decide) (hg _ (List.mem_append_right _ (List.mem_append_right _ (List.mem_append_right _ (List.mem_append_right _ (List.mem_append_left _ (List.mem_of_getElem? (i := 8) rfl))))))) (fun _ h9 => h9) rfl d_LN_isLastOfParagraph_2 ?_
  refine z_iconst hx hb (z := 1) d_LN_isLastOfParagraph_5 ?_
  refine z_isub hx hb d_LN_isLastOfParagraph_6 (v := (M (3) 2 - 1)) rfl ?_
  refine z_icmp_ge hx hb (tgt := 31) d_LN_isLastOfParagraph_7 (by decide) ⟨by omega, by omega⟩ ⟨by omega, by omega⟩ (fun c_7 => ?_) (fun c_7 => ?_)
  · refine z_iconst hx hb (z := 1) d_LN_isLastOfParagraph_31 ?_
    refine lv_goto (tgt := 36) hx hb d_LN_isLastOfParagraph_32 (by decide) ?_
    exact W.zret (v := iI (1)) hx hb hr (by first | rfl | decide) (fun t ht hW => ⟨_, rfl, by first | (rw [bz_t (by omega)]; done) | (rw [bz_f (by omega)]; done), ht⟩) (fun q h => by cases h) d_LN_isLastOfParagraph_36
  · refine lv_aload_n hx hb d_LN_isLastOfParagraph_10 rfl (lv_at hl 0 rfl) ?_
    refine z_get (ci := 3) (C := R_LN) (T := T_LN) (N := 6) (v := .ref (ad (10))) hx hb hg in_LN hown hK hP (3) (by decide) rfl rfl 0 (by decide) (hg _ (List.mem_append_right _ (List.mem_append_right _ (List.mem_append_right _ (List.mem_append_right _ (List.mem_append_left _ (List.mem_of_getElem? (i := 3) rfl))))))) (fun _ h9 => h9) rfl d_LN_isLastOfParagraph_11 ?_
    refine z_iconst hx hb (z := 0) d_LN_isLastOfParagraph_14 ?_
    refine z_aald hx hb hK hP (10) 1 (by decide) (fun _ => rfl) rfl rfl (0) rfl (by decide) (by decide) d_LN_isLastOfParagraph_15 ?_
    refine lv_iload_n hx hb d_LN_isLastOfParagraph_16 rfl (lv_at hl 1 rfl) ?_
    refine z_iconst hx hb (z := 1) d_LN_isLastOfParagraph_17 ?_
    refine z_iadd hx hb d_LN_isLastOfParagraph_18 (v := ((w + 1 : Nat) : Int)) (by omega) ?_
    refine z_iald hx hb hK hP (13) 0 (by decide) (fun _ => rfl) rfl (w + 1) rfl (by omega) (by decide) d_LN_isLastOfParagraph_19 ?_
    refine lv_aload_n hx hb d_LN_isLastOfParagraph_20 rfl (lv_at hl 0 rfl) ?_
    refine z_get (ci := 3) (C := R_LN) (T := T_LN) (N := 6) (v := .ref (ad (10))) hx hb hg in_LN hown hK hP (3) (by decide) rfl rfl 0 (by decide) (hg _ (List.mem_append_right _ (List.mem_append_right _ (List.mem_append_right _ (List.mem_append_right _ (List.mem_append_left _ (List.mem_of_getElem? (i := 3) rfl))))))) (fun _ h9 => h9) rfl d_LN_isLastOfParagraph_21 ?_
    refine z_iconst hx hb (z := 0) d_LN_isLastOfParagraph_24 ?_
    refine z_aald hx hb hK hP (10) 1 (by decide) (fun _ => rfl) rfl rfl (0) rfl (by decide) (by decide) d_LN_isLastOfParagraph_25 ?_
    refine lv_iload_n hx hb d_LN_isLastOfParagraph_26 rfl (lv_at hl 1 rfl) ?_
    refine z_iald hx hb hK hP (13) 0 (by decide) (fun _ => rfl) rfl (w) rfl (by omega) (by decide) d_LN_isLastOfParagraph_27 ?_
    refine z_icmp_eq hx hb (tgt := 35) d_LN_isLastOfParagraph_28 (by decide) (hz _) (hz _) (fun c_28 => ?_) (fun c_28 => ?_)
    · refine z_iconst hx hb (z := 0) d_LN_isLastOfParagraph_35 ?_
      exact W.zret (v := iI (0)) hx hb hr (by first | rfl | decide) (fun t ht hW => ⟨_, rfl, by first | (rw [bz_t (by omega)]; done) | (rw [bz_f (by omega)]; done), ht⟩) (fun q h => by cases h) d_LN_isLastOfParagraph_36
    · refine z_iconst hx hb (z := 1) d_LN_isLastOfParagraph_31 ?_
      refine lv_goto (tgt := 36) hx hb d_LN_isLastOfParagraph_32 (by decide) ?_
      exact W.zret (v := iI (1)) hx hb hr (by first | rfl | decide) (fun t ht hW => ⟨_, rfl, by first | (rw [bz_t (by omega)]; done) | (rw [bz_f (by omega)]; done), ht⟩) (fun q h => by cases h) d_LN_isLastOfParagraph_36
set_option maxHeartbeats 4000000 in
set_option maxRecDepth 100000 in
/-- Lines.endsPage -/
theorem c_endsPage (l : Launch) {D : va_G} {ad : Nat → Nat} {cs : pg_C} {rp : Option Nat} {M : Nat → Nat → Int} (w f k : Nat) (hw : w < 630) (hf : M 14 w = ((f : Nat) : Int)) (hk : M 15 w = ((k : Nat) : Int)) (hfk : f + k ≤ 600) (hz : ∀ j, zb (M 7 j)) : Met l y_LN_endsPage ws_LN_endsPage ({ frames := 0, cells := 0, slots := 0, locals := 0 } : Room) (va_Pc [.ref (ad (3)), .int (iI (((w : Nat) : Int)))] (ro_B D vwCl (pg_tys cs) (pg_w ad cs rp M))) (vp_Si (fun r => r = iI (bz (p_endp (M 7) f k) inferInstance))) 0 0 (fun _ => False) := by
  refine Met.ofW (cc := b_LN_endsPage) (maxL := 3) (ret := (some .boolean)) (by decide) rfl ?_
  intro p e s m args below meth c s₁ B hml hv
  obtain ⟨rfl, hP, hK⟩ := hv
  have hx := B.exec
  have hb := B.bytes
  have hr := B.returns
  have hts := atoms_spec (ws := ws_LN_endsPage) B.pre
  have hg : ∀ w ∈ gt, w.before _ s = true := fun w h => hts w (List.mem_cons_of_mem _ h)
  have hown : s.vm.findClass R_LN = some m.cls := findClass_of_methodNamed B.named
  have hlocks := B.notSynchronized
  have hl := lv_entry ([.ref (ad (3)), .int (iI (((w : Nat) : Int)))]) (n := 3) (Nat.le_of_ble_eq_true rfl)
  rw [lg_entry_eq]
  generalize (lg_sl ([.ref (ad (3)), .int (iI (((w : Nat) : Int)))]) ++ List.replicate (3 - (lg_sl ([.ref (ad (3)), .int (iI (((w : Nat) : Int)))])).length) Slot.unset).toArray = ls at hl ⊢
  have hl : lv_has ls 3 [(0, .ref (ad (3))), (1, .int (iI (((w : Nat) : Int))))] := hl
  refine lv_aload_n hx hb d_LN_endsPage_0 rfl (lv_at hl 0 rfl) ?_
  refine z_get (ci := 3) (C := R_LN) (T := T_LN) (N := 6) (v := .ref (ad (10))) hx hb hg in_LN hown hK hP (3) (by decide) rfl rfl 0 (by decide) (hg _ (List.mem_append_right _ (List.mem_append_right _ (List.mem_append_right _ (List.mem_append_right _ (List.mem_append_left _ (List.mem_of_getElem? (i := 3) rfl))))))) (fun _ h9 => h9) rfl d_LN_endsPage_1 ?_
  refine z_iconst hx hb (z := 2) d_LN_endsPage_4 ?_
  refine z_aald hx hb hK hP (10) 1 (by decide) (fun _ => rfl) rfl rfl (2) rfl (by decide) (by decide) d_LN_endsPage_5 ?_
  refine lv_iload_n hx hb d_LN_endsPage_6 rfl (lv_at hl 1 rfl) ?_
  refine z_iald hx hb hK hP (15) 0 (by decide) (fun _ => rfl) rfl (w) rfl (by omega) (by decide) d_LN_endsPage_7 ?_
  refine lv_istore_n (lv' := [(2, .int (iI (M (15) (w)))), (0, .ref (ad (3))), (1, .int (iI (((w : Nat) : Int))))]) hx hb d_LN_endsPage_8 rfl hl (by decide) rfl (fun ls hl => ?_)
  refine lv_iload_n hx hb d_LN_endsPage_9 rfl (lv_at hl 0 rfl) ?_
  refine z_if_le hx hb (tgt := 42) d_LN_endsPage_10 (by decide) ⟨by omega, by omega⟩ (fun c_10 => ?_) (fun c_10 => ?_)
  · refine z_iconst hx hb (z := 0) d_LN_endsPage_42 ?_
    exact W.zret (v := iI (0)) hx hb hr (by first | rfl | decide) (fun t ht hW => ⟨_, rfl, by first | (rw [bz_t (by omega)]; done) | (rw [bz_f (by omega)]; done), ht⟩) (fun q h => by cases h) d_LN_endsPage_43
  · refine lv_aload_n hx hb d_LN_endsPage_13 rfl (lv_at hl 1 rfl) ?_
    refine z_get (ci := 3) (C := R_LN) (T := T_LN) (N := 6) (v := .ref (ad (1))) hx hb hg in_LN hown hK hP (3) (by decide) rfl rfl 3 (by decide) (hg _ (List.mem_append_right _ (List.mem_append_right _ (List.mem_append_right _ (List.mem_append_right _ (List.mem_append_left _ (List.mem_of_getElem? (i := 11) rfl))))))) (fun _ h9 => h9) rfl d_LN_endsPage_14 ?_
    refine z_get (ci := 1) (C := R_TX) (T := T_TX) (N := 6) (v := .ref (ad (7))) hx hb hg in_TX hown hK hP (1) (by decide) rfl rfl 1 (by decide) (hg _ (List.mem_append_right _ (List.mem_append_right _ (List.mem_append_left _ (List.mem_of_getElem? (i := 22) rfl))))) (fun _ h9 => h9) rfl d_LN_endsPage_17 ?_
    refine lv_aload_n hx hb d_LN_endsPage_20 rfl (lv_at hl 1 rfl) ?_
    refine z_get (ci := 3) (C := R_LN) (T := T_LN) (N := 6) (v := .ref (ad (10))) hx hb hg in_LN hown hK hP (3) (by decide) rfl rfl 0 (by decide) (hg _ (List.mem_append_right _ (List.mem_append_right _ (List.mem_append_right _ (List.mem_append_right _ (List.mem_append_left _ (List.mem_of_getElem? (i := 3) rfl))))))) (fun _ h9 => h9) rfl d_LN_endsPage_21 ?_
    refine z_iconst hx hb (z := 1) d_LN_endsPage_24 ?_
    refine z_aald hx hb hK hP (10) 1 (by decide) (fun _ => rfl) rfl rfl (1) rfl (by decide) (by decide) d_LN_endsPage_25 ?_
    refine lv_iload_n hx hb d_LN_endsPage_26 rfl (lv_at hl 2 rfl) ?_
    refine z_iald hx hb hK hP (14) 0 (by decide) (fun _ => rfl) rfl (w) rfl (by omega) (by decide) d_LN_endsPage_27 ?_
    refine lv_iload_n hx hb d_LN_endsPage_28 rfl (lv_at hl 0 rfl) ?_
    refine z_iadd hx hb d_LN_endsPage_29 (v := (M (14) (w) + M (15) (w))) rfl ?_
    refine z_iconst hx hb (z := 1) d_LN_endsPage_30 ?_
    refine z_isub hx hb d_LN_endsPage_31 (v := ((M (14) (w) + M (15) (w)) - 1)) rfl ?_
    refine z_iald hx hb hK hP (7) 0 (by decide) (fun _ => rfl) rfl (f + k - 1) (by omega) (by omega) (by decide) d_LN_endsPage_32 ?_
    refine z_bipush hx hb (z := 6) d_LN_endsPage_33 (by decide) ?_
    refine z_icmp_ne hx hb (tgt := 42) d_LN_endsPage_35 (by decide) (hz _) ⟨by decide, by decide⟩ (fun c_35 => ?_) (fun c_35 => ?_)
    · refine z_iconst hx hb (z := 0) d_LN_endsPage_42 ?_
      exact W.zret (v := iI (0)) hx hb hr (by first | rfl | decide) (fun t ht hW => ⟨_, rfl, by first | (rw [bz_t (by omega)]; done) | (rw [bz_f (by omega)]; done), ht⟩) (fun q h => by cases h) d_LN_endsPage_43
    · refine z_iconst hx hb (z := 1) d_LN_endsPage_38 ?_
      refine lv_goto (tgt := 43) hx hb d_LN_endsPage_39 (by decide) ?_
      exact W.zret (v := iI (1)) hx hb hr (by first | rfl | decide) (fun t ht hW => ⟨_, rfl, by first | (rw [bz_t (by omega)]; done) | (rw [bz_f (by omega)]; done), ht⟩) (fun q h => by cases h) d_LN_endsPage_43
set_option maxHeartbeats 4000000 in
set_option maxRecDepth 100000 in
theorem lp_signAhead {p : Program} {l : Launch} {e : Env} {s : State} {m : MethodId} {args : Array Value} {below : List Frame} {meth : Method} {c : Code} {H : Heap} {locs : List Loc} {Q : State → Prop} {D : va_G} {ad : Nat → Nat} {cs : pg_C} {rp : Option Nat} {M : Nat → Nat → Int} (hx : p.tables.exec = Jvm.exec) (hb : c.code = b_LN_signAhead) (hml : c.maxLocals = 7) (hg : ∀ w ∈ gt, w.before args s = true) (hown : s.vm.findClass R_LN = some m.cls) (hK : va_K D vwCl (pg_tys cs) s) (hP : va_P D vwCl (pg_w ad cs rp M) H) (w f0 k t : Nat) (x : Int) (hxb : zb x) (hf : M 14 w = ((f0 : Nat) : Int)) (hk : M 15 w = ((k : Nat) : Int)) (hfk : f0 + k ≤ 600) (ht : wfT M) (hpf : ∀ j, 0 ≤ M 24 j ∧ M 24 j ≤ 100000000) (hpw : ∀ j, 0 ≤ M 25 j ∧ M 25 j ≤ 100000000) (kk : ∀ (ls : Array Slot), W p l e ({ frames := 1, cells := 0, slots := 0, locals := 21 } : Room) s m args below meth c H locs 0 0 Q (F0 m 74 ls [.int (iI ((t : Nat) : Int))])) (kk2 : ∀ (ls : Array Slot), W p l e ({ frames := 1, cells := 0, slots := 0, locals := 21 } : Room) s m args below meth c H locs 0 0 Q (F0 m 83 ls [.int (iI ((t : Nat) : Int))])) : ∀ (f i : Nat) (ls : Array Slot), i + f = f0 + k → p_ah (M 7) (M 24) (M 25) x f i = t → lv_has ls 7 [(5, .int (iI (((i : Nat) : Int)))), (4, .int (iI ((M 14 w + M 15 w)))), (3, .int (iI (M 14 w))), (0, .ref (ad (3))), (1, .int (iI (((w : Nat) : Int)))), (2, .int (iI (x)))] → W p l e ({ frames := 1, cells := 0, slots := 0, locals := 21 } : Room) s m args below meth c H locs 0 0 Q (F0 m 24 ls []) := by
  intro f
  induction f with
  | zero =>
    intro i ls hi he hl
    have q1 := hpf i
    have q2 := hpw i
    have q3 : 0 ≤ (M 25 i).tdiv 2 ∧ (M 25 i).tdiv 2 ≤ M 25 i := by rw [Int.tdiv_eq_ediv_of_nonneg (by omega)]; omega
    refine lv_iload hx hb d_LN_signAhead_24 (lv_at hl 0 rfl) ?_
    refine lv_iload hx hb d_LN_signAhead_26 (lv_at hl 1 rfl) ?_
    refine z_icmp_ge hx hb (tgt := 81) d_LN_signAhead_28 (by decide) ⟨by omega, by omega⟩ ⟨by omega, by omega⟩ (fun c_28 => ?_) (fun c_28 => ?_)
    · refine lv_iload hx hb d_LN_signAhead_81 (lv_at hl 1 rfl) ?_
      have he : i = t := he
      rw [show M 14 w + M 15 w = ((t : Nat) : Int) by omega]
      exact kk2 ls
    · exact absurd c_28 (by omega)
  | succ f ih =>
    intro i ls hi he hl
    have q1 := hpf i
    have q2 := hpw i
    have q3 : 0 ≤ (M 25 i).tdiv 2 ∧ (M 25 i).tdiv 2 ≤ M 25 i := by rw [Int.tdiv_eq_ediv_of_nonneg (by omega)]; omega
    refine lv_iload hx hb d_LN_signAhead_24 (lv_at hl 0 rfl) ?_
    refine lv_iload hx hb d_LN_signAhead_26 (lv_at hl 1 rfl) ?_
    refine z_icmp_ge hx hb (tgt := 81) d_LN_signAhead_28 (by decide) ⟨by omega, by omega⟩ ⟨by omega, by omega⟩ (fun c_28 => ?_) (fun c_28 => ?_)
    · refine lv_iload hx hb d_LN_signAhead_81 (lv_at hl 1 rfl) ?_
      exact absurd c_28 (by omega)
    · refine lv_aload_n hx hb d_LN_signAhead_31 rfl (lv_at hl 3 rfl) ?_
      refine z_get (ci := 3) (C := R_LN) (T := T_LN) (N := 6) (v := .ref (ad (11))) hx hb hg in_LN hown hK hP (3) (by decide) rfl rfl 1 (by decide) (hg _ (List.mem_append_right _ (List.mem_append_right _ (List.mem_append_right _ (List.mem_append_right _ (List.mem_append_left _ (List.mem_of_getElem? (i := 6) rfl))))))) (fun _ h9 => h9) rfl d_LN_signAhead_32 ?_
      refine z_iconst hx hb (z := 1) d_LN_signAhead_35 ?_
      refine z_aald hx hb hK hP (11) 1 (by decide) (fun _ => rfl) rfl rfl (1) rfl (by decide) (by decide) d_LN_signAhead_36 ?_
      refine lv_iload hx hb d_LN_signAhead_37 (lv_at hl 0 rfl) ?_
      refine z_iald hx hb hK hP (24) 0 (by decide) (fun _ => rfl) rfl (i) rfl (by omega) (by decide) d_LN_signAhead_39 ?_
      refine lv_aload_n hx hb d_LN_signAhead_40 rfl (lv_at hl 3 rfl) ?_
      refine z_get (ci := 3) (C := R_LN) (T := T_LN) (N := 6) (v := .ref (ad (11))) hx hb hg in_LN hown hK hP (3) (by decide) rfl rfl 1 (by decide) (hg _ (List.mem_append_right _ (List.mem_append_right _ (List.mem_append_right _ (List.mem_append_right _ (List.mem_append_left _ (List.mem_of_getElem? (i := 6) rfl))))))) (fun _ h9 => h9) rfl d_LN_signAhead_41 ?_
      refine z_iconst hx hb (z := 2) d_LN_signAhead_44 ?_
      refine z_aald hx hb hK hP (11) 1 (by decide) (fun _ => rfl) rfl rfl (2) rfl (by decide) (by decide) d_LN_signAhead_45 ?_
      refine lv_iload hx hb d_LN_signAhead_46 (lv_at hl 0 rfl) ?_
      refine z_iald hx hb hK hP (25) 0 (by decide) (fun _ => rfl) rfl (i) rfl (by omega) (by decide) d_LN_signAhead_48 ?_
      refine z_iconst hx hb (z := 2) d_LN_signAhead_49 ?_
      refine z_idiv hx hb d_LN_signAhead_50 ⟨by omega, by omega⟩ ⟨by decide, by decide⟩ (by omega) (v := ((M (25) (i)).tdiv (2))) rfl ?_
      refine z_iadd hx hb d_LN_signAhead_51 (v := (M (24) (i) + ((M (25) (i)).tdiv (2)))) rfl ?_
      refine lv_istore (lv' := [(6, .int (iI ((M (24) (i) + ((M (25) (i)).tdiv (2)))))), (5, .int (iI (((i : Nat) : Int)))), (4, .int (iI ((M 14 w + M 15 w)))), (3, .int (iI (M 14 w))), (0, .ref (ad (3))), (1, .int (iI (((w : Nat) : Int)))), (2, .int (iI (x)))]) hx hb d_LN_signAhead_52 hl (by decide) rfl (fun ls hl => ?_)
      refine lv_iload hx hb d_LN_signAhead_54 (lv_at hl 0 rfl) ?_
      refine lv_iload_n hx hb d_LN_signAhead_56 rfl (lv_at hl 6 rfl) ?_
      refine z_icmp_gt hx hb (tgt := 72) d_LN_signAhead_57 (by decide) ⟨by omega, by omega⟩ hxb (fun c_57 => ?_) (fun c_57 => ?_)
      · refine lv_iload hx hb d_LN_signAhead_72 (lv_at hl 1 rfl) ?_
        have he : i = t := by rw [← he]; unfold p_ah; rw [if_pos (by omega)]
        subst he
        exact kk ls
      · refine lv_aload_n hx hb d_LN_signAhead_60 rfl (lv_at hl 4 rfl) ?_
        refine z_get (ci := 3) (C := R_LN) (T := T_LN) (N := 6) (v := .ref (ad (1))) hx hb hg in_LN hown hK hP (3) (by decide) rfl rfl 3 (by decide) (hg _ (List.mem_append_right _ (List.mem_append_right _ (List.mem_append_right _ (List.mem_append_right _ (List.mem_append_left _ (List.mem_of_getElem? (i := 11) rfl))))))) (fun _ h9 => h9) rfl d_LN_signAhead_61 ?_
        refine lv_iload hx hb d_LN_signAhead_64 (lv_at hl 1 rfl) ?_
        refine ro_V (As := [.int (iI (((i : Nat) : Int)))]) (rest := []) (z := bz (p_endl (M 7) i) inferInstance) ⟨hx, hb, hml, hown, hg⟩ (c_endsLine l i (by omega) (zb_7 ht)) (cwV 1 hg (gt_V (List.mem_append_right _ (List.mem_append_right _ (List.mem_append_right _ (List.mem_append_right _ (List.mem_append_right _ (List.mem_append_right _ (List.mem_append_left _ (List.mem_of_getElem? (i := 32) rfl)))))))) (List.mem_append_right _ (List.mem_append_right _ (List.mem_append_right _ (List.mem_append_right _ (List.mem_append_right _ (List.mem_append_left _ (List.mem_of_getElem? (i := 38) rfl))))))) (List.mem_append_right _ (List.mem_append_right _ (List.mem_append_right _ (List.mem_append_right _ (List.mem_append_right _ (List.mem_append_left _ (List.mem_of_getElem? (i := 39) rfl))))))) (List.mem_append_right _ (List.mem_append_left _ (List.mem_of_getElem? (i := 3) rfl))) (List.mem_append_right _ (List.mem_append_right _ (List.mem_append_right _ (List.mem_append_right _ (List.mem_append_right _ (List.mem_append_right _ (List.mem_append_left _ (List.mem_of_getElem? (i := 0) rfl))))))))) rfl rfl rfl (by decide +kernel) ⟨Nat.le_of_ble_eq_true rfl, Nat.le_of_ble_eq_true rfl⟩) hK hP (va_recv hK hP (ci := 1) (q0 := 1) rfl (wl_atE (by decide) rfl)) rfl hl.1 rfl (Nat.le_of_ble_eq_true rfl) d_LN_signAhead_66 ⟨Nat.zero_le _, Nat.zero_le _⟩ ?_
        refine z_ifb_eq hx hb (tgt := 75) d_LN_signAhead_69 (by decide) (fun c_69 => ?_) (fun c_69 => ?_)
        · refine z_iinc (v := ((i + 1 : Nat) : Int)) (lv' := [(5, .int (iI (((i + 1 : Nat) : Int)))), (6, .int (iI ((M (24) (i) + ((M (25) (i)).tdiv (2)))))), (4, .int (iI ((M 14 w + M 15 w)))), (3, .int (iI (M 14 w))), (0, .ref (ad (3))), (1, .int (iI (((w : Nat) : Int)))), (2, .int (iI (x)))]) hx hb d_LN_signAhead_75 hl (k := 1) rfl (by omega) (by decide) rfl (fun ls hl => ?_)
          refine lv_goto (tgt := 24) hx hb d_LN_signAhead_78 (by decide) ?_
          exact ih (i + 1) ls (by omega) (by rw [← he]; conv => rhs; unfold p_ah; rw [if_neg (by omega)]) (lv_sub hl [0, 2, 3, 4, 5, 6] rfl)
        · refine lv_iload hx hb d_LN_signAhead_72 (lv_at hl 1 rfl) ?_
          have he : i = t := by rw [← he]; unfold p_ah; rw [if_pos (by omega)]
          subst he
          exact kk ls
set_option maxHeartbeats 4000000 in
set_option maxRecDepth 100000 in
/-- Lines.signAhead -/
theorem c_signAhead (l : Launch) {D : va_G} {ad : Nat → Nat} {cs : pg_C} {rp : Option Nat} {M : Nat → Nat → Int} (w f0 k : Nat) (x : Int) (hw : w < 630) (hxb : zb x) (hf : M 14 w = ((f0 : Nat) : Int)) (hk : M 15 w = ((k : Nat) : Int)) (hfk : f0 + k ≤ 600) (ht : wfT M) (hpf : ∀ j, 0 ≤ M 24 j ∧ M 24 j ≤ 100000000) (hpw : ∀ j, 0 ≤ M 25 j ∧ M 25 j ≤ 100000000) : Met l y_LN_signAhead ws_LN_signAhead ({ frames := 1, cells := 0, slots := 0, locals := 21 } : Room) (va_Pc [.ref (ad (3)), .int (iI (((w : Nat) : Int))), .int (iI (x))] (ro_B D vwCl (pg_tys cs) (pg_w ad cs rp M))) (vp_Si (fun r => r = iI (((p_ah (M 7) (M 24) (M 25) x k f0 : Nat) : Int)))) 0 0 (fun _ => False) := by
  refine Met.ofW (cc := b_LN_signAhead) (maxL := 7) (ret := (some .int)) (by decide) rfl ?_
  intro p e s m args below meth c s₁ B hml hv
  obtain ⟨rfl, hP, hK⟩ := hv
  have hx := B.exec
  have hb := B.bytes
  have hr := B.returns
  have hts := atoms_spec (ws := ws_LN_signAhead) B.pre
  have hg : ∀ w ∈ gt, w.before _ s = true := fun w h => hts w (List.mem_cons_of_mem _ h)
  have hown : s.vm.findClass R_LN = some m.cls := findClass_of_methodNamed B.named
  have hlocks := B.notSynchronized
  have hl := lv_entry ([.ref (ad (3)), .int (iI (((w : Nat) : Int))), .int (iI (x))]) (n := 7) (Nat.le_of_ble_eq_true rfl)
  rw [lg_entry_eq]
  generalize (lg_sl ([.ref (ad (3)), .int (iI (((w : Nat) : Int))), .int (iI (x))]) ++ List.replicate (7 - (lg_sl ([.ref (ad (3)), .int (iI (((w : Nat) : Int))), .int (iI (x))])).length) Slot.unset).toArray = ls at hl ⊢
  have hl : lv_has ls 7 [(0, .ref (ad (3))), (1, .int (iI (((w : Nat) : Int)))), (2, .int (iI (x)))] := hl
  refine lv_aload_n hx hb d_LN_signAhead_0 rfl (lv_at hl 0 rfl) ?_
  refine z_get (ci := 3) (C := R_LN) (T := T_LN) (N := 6) (v := .ref (ad (10))) hx hb hg in_LN hown hK hP (3) (by decide) rfl rfl 0 (by decide) (hg _ (List.mem_append_right _ (List.mem_append_right _ (List.mem_append_right _ (List.mem_append_right _ (List.mem_append_left _ (List.mem_of_getElem? (i := 3) rfl))))))) (fun _ h9 => h9) rfl d_LN_signAhead_1 ?_
  refine z_iconst hx hb (z := 1) d_LN_signAhead_4 ?_
  refine z_aald hx hb hK hP (10) 1 (by decide) (fun _ => rfl) rfl rfl (1) rfl (by decide) (by decide) d_LN_signAhead_5 ?_
  refine lv_iload_n hx hb d_LN_signAhead_6 rfl (lv_at hl 1 rfl) ?_
  refine z_iald hx hb hK hP (14) 0 (by decide) (fun _ => rfl) rfl (w) rfl (by omega) (by decide) d_LN_signAhead_7 ?_
  refine lv_istore_n (lv' := [(3, .int (iI (M (14) (w)))), (0, .ref (ad (3))), (1, .int (iI (((w : Nat) : Int)))), (2, .int (iI (x)))]) hx hb d_LN_signAhead_8 rfl hl (by decide) rfl (fun ls hl => ?_)
  refine lv_iload_n hx hb d_LN_signAhead_9 rfl (lv_at hl 0 rfl) ?_
  refine lv_aload_n hx hb d_LN_signAhead_10 rfl (lv_at hl 1 rfl) ?_
  refine z_get (ci := 3) (C := R_LN) (T := T_LN) (N := 6) (v := .ref (ad (10))) hx hb hg in_LN hown hK hP (3) (by decide) rfl rfl 0 (by decide) (hg _ (List.mem_append_right _ (List.mem_append_right _ (List.mem_append_right _ (List.mem_append_right _ (List.mem_append_left _ (List.mem_of_getElem? (i := 3) rfl))))))) (fun _ h9 => h9) rfl d_LN_signAhead_11 ?_
  refine z_iconst hx hb (z := 2) d_LN_signAhead_14 ?_
  refine z_aald hx hb hK hP (10) 1 (by decide) (fun _ => rfl) rfl rfl (2) rfl (by decide) (by decide) d_LN_signAhead_15 ?_
  refine lv_iload_n hx hb d_LN_signAhead_16 rfl (lv_at hl 2 rfl) ?_
  refine z_iald hx hb hK hP (15) 0 (by decide) (fun _ => rfl) rfl (w) rfl (by omega) (by decide) d_LN_signAhead_17 ?_
  refine z_iadd hx hb d_LN_signAhead_18 (v := (M (14) (w) + M (15) (w))) rfl ?_
  refine lv_istore (lv' := [(4, .int (iI ((M (14) (w) + M (15) (w))))), (3, .int (iI (M (14) (w)))), (0, .ref (ad (3))), (1, .int (iI (((w : Nat) : Int)))), (2, .int (iI (x)))]) hx hb d_LN_signAhead_19 hl (by decide) rfl (fun ls hl => ?_)
  refine lv_iload_n hx hb d_LN_signAhead_21 rfl (lv_at hl 1 rfl) ?_
  refine lv_istore (lv' := [(5, .int (iI (M (14) (w)))), (4, .int (iI ((M (14) (w) + M (15) (w))))), (3, .int (iI (M (14) (w)))), (0, .ref (ad (3))), (1, .int (iI (((w : Nat) : Int)))), (2, .int (iI (x)))]) hx hb d_LN_signAhead_22 hl (by decide) rfl (fun ls hl => ?_)
  have hl := lv_sub hl [0, 1, 2, 3, 4, 5] rfl
  have hl : lv_has ls 7 [(5, .int (iI (((f0 : Nat) : Int)))), (4, .int (iI ((M 14 w + M 15 w)))), (3, .int (iI (M 14 w))), (0, .ref (ad (3))), (1, .int (iI (((w : Nat) : Int)))), (2, .int (iI (x)))] := by rw [hf] at hl ⊢; exact hl
  refine lp_signAhead hx hb hml hg hown hK hP w f0 k _ x hxb hf hk hfk ht hpf hpw (fun ls => ?_) (fun ls => ?_) k f0 ls rfl rfl hl
  · exact W.iret (v := iI (((p_ah (M 7) (M 24) (M 25) x k f0 : Nat) : Int))) hx hb hr (fun t ht hW => ⟨_, rfl, rfl, ht⟩) (fun q h => by cases h) d_LN_signAhead_74
  · exact W.iret (v := iI (((p_ah (M 7) (M 24) (M 25) x k f0 : Nat) : Int))) hx hb hr (fun t ht hW => ⟨_, rfl, rfl, ht⟩) (fun q h => by cases h) d_LN_signAhead_83
end
section
/-! Further rows over integers: switches. My own. -/
section ZR2
variable {p : Program} {l : Launch} {e : Env} {R : Room} {s : State} {m : MethodId} {args : Array Value} {below : List Frame} {meth : Method} {c : Code} {H : Heap} {locs : List Loc} {cells slots : Nat} {Q : State → Prop}
variable {cc : ByteArray} {pc : Nat} {ls : Array Slot} {rest : List Value} {a : Int}
theorem z_tabOut (hexec : p.tables.exec = Jvm.exec) (hb : c.code = cc) {dflt lo hi : Int} {offs : Array Int} {len tgt : Nat} (hdg : decode cc pc = .ok (.tableswitch dflt lo hi offs, len)) (ha : zb a) (h : a < lo ∨ hi < a) (ht : (pc : Int) + dflt = (tgt : Int))
    (k : W p l e R s m args below meth c H locs cells slots Q (F0 m tgt ls rest)) : W p l e R s m args below meth c H locs cells slots Q (F0 m pc ls (.int (iI a) :: rest)) :=
  lv_tableOut hexec hb hdg (by rw [iI_T ha]; exact h) ht k
theorem z_tabIn (hexec : p.tables.exec = Jvm.exec) (hb : c.code = cc) {dflt lo hi : Int} {offs : Array Int} {len tgt : Nat} {off : Int} (hdg : decode cc pc = .ok (.tableswitch dflt lo hi offs, len)) (ha : zb a) (j : Nat) (hj : a = lo + ((j : Nat) : Int)) (hh : ¬ hi < a) (ho : offs[j]? = some off) (ht : (pc : Int) + off = (tgt : Int))
    (k : W p l e R s m args below meth c H locs cells slots Q (F0 m tgt ls rest)) : W p l e R s m args below meth c H locs cells slots Q (F0 m pc ls (.int (iI a) :: rest)) :=
  lv_tableIn hexec hb hdg (by rw [iI_T ha]; omega) (by rw [iI_T ha]; exact hh) (by rw [iI_T ha, show (a - lo).toNat = j by omega]; exact ho) ht k
end ZR2
/-- a page may end ahead of a line: w, of the paragraph of the line before -/
abbrev p_may (pa sh : Nat → Int) (nl w : Nat) : Prop := (p_first pa w ∧ sh 6 = 0) ∨ (¬ p_first pa w ∧ sh 7 = 0 ∧ (sh 8 = 0 ∨ ¬ (p_first pa (w - 1) ∨ p_lastl pa nl w)))
end
section
theorem d_PG_mustEndAhead_0 : decode b_PG_mustEndAhead 0 = .ok (.aload_n 0, 1) := by decide +kernel
theorem d_PG_mustEndAhead_1 : decode b_PG_mustEndAhead 1 = .ok (.getfield 24, 3) := by decide +kernel
theorem d_PG_mustEndAhead_4 : decode b_PG_mustEndAhead 4 = .ok (.iload_n 1, 1) := by decide +kernel
theorem d_PG_mustEndAhead_5 : decode b_PG_mustEndAhead 5 = .ok (.iconst 1, 1) := by decide +kernel
theorem d_PG_mustEndAhead_6 : decode b_PG_mustEndAhead 6 = .ok (.isub, 1) := by decide +kernel
theorem d_PG_mustEndAhead_7 : decode b_PG_mustEndAhead 7 = .ok (.invokevirtual 90, 3) := by decide +kernel
theorem d_PG_mustEndAhead_10 : decode b_PG_mustEndAhead 10 = .ok (.ifCond .ne 29, 3) := by decide +kernel
theorem d_PG_mustEndAhead_13 : decode b_PG_mustEndAhead 13 = .ok (.aload_n 0, 1) := by decide +kernel
theorem d_PG_mustEndAhead_14 : decode b_PG_mustEndAhead 14 = .ok (.getfield 24, 3) := by decide +kernel
theorem d_PG_mustEndAhead_17 : decode b_PG_mustEndAhead 17 = .ok (.iload_n 1, 1) := by decide +kernel
theorem d_PG_mustEndAhead_18 : decode b_PG_mustEndAhead 18 = .ok (.invokevirtual 71, 3) := by decide +kernel
theorem d_PG_mustEndAhead_21 : decode b_PG_mustEndAhead 21 = .ok (.ifCond .eq 22, 3) := by decide +kernel
theorem d_PG_mustEndAhead_24 : decode b_PG_mustEndAhead 24 = .ok (.aload_n 0, 1) := by decide +kernel
theorem d_PG_mustEndAhead_25 : decode b_PG_mustEndAhead 25 = .ok (.iload_n 1, 1) := by decide +kernel
theorem d_PG_mustEndAhead_26 : decode b_PG_mustEndAhead 26 = .ok (.invokevirtual 74, 3) := by decide +kernel
theorem d_PG_mustEndAhead_29 : decode b_PG_mustEndAhead 29 = .ok (.getfield 78, 3) := by decide +kernel
theorem d_PG_mustEndAhead_32 : decode b_PG_mustEndAhead 32 = .ok (.bipush 9, 2) := by decide +kernel
theorem d_PG_mustEndAhead_34 : decode b_PG_mustEndAhead 34 = .ok (.iaload, 1) := by decide +kernel
theorem d_PG_mustEndAhead_35 : decode b_PG_mustEndAhead 35 = .ok (.iconst 1, 1) := by decide +kernel
theorem d_PG_mustEndAhead_36 : decode b_PG_mustEndAhead 36 = .ok (.if_icmp .ne 7, 3) := by decide +kernel
theorem d_PG_mustEndAhead_39 : decode b_PG_mustEndAhead 39 = .ok (.iconst 1, 1) := by decide +kernel
theorem d_PG_mustEndAhead_40 : decode b_PG_mustEndAhead 40 = .ok (.goto 4, 3) := by decide +kernel
theorem d_PG_mustEndAhead_43 : decode b_PG_mustEndAhead 43 = .ok (.iconst 0, 1) := by decide +kernel
theorem d_PG_mustEndAhead_44 : decode b_PG_mustEndAhead 44 = .ok (.ireturn, 1) := by decide +kernel
theorem d_PG_paragraphOf_0 : decode b_PG_paragraphOf 0 = .ok (.aload_n 0, 1) := by decide +kernel
theorem d_PG_paragraphOf_1 : decode b_PG_paragraphOf 1 = .ok (.getfield 16, 3) := by decide +kernel
theorem d_PG_paragraphOf_4 : decode b_PG_paragraphOf 4 = .ok (.getfield 84, 3) := by decide +kernel
theorem d_PG_paragraphOf_7 : decode b_PG_paragraphOf 7 = .ok (.aload_n 0, 1) := by decide +kernel
theorem d_PG_paragraphOf_8 : decode b_PG_paragraphOf 8 = .ok (.getfield 24, 3) := by decide +kernel
theorem d_PG_paragraphOf_11 : decode b_PG_paragraphOf 11 = .ok (.getfield 49, 3) := by decide +kernel
theorem d_PG_paragraphOf_14 : decode b_PG_paragraphOf 14 = .ok (.iconst 0, 1) := by decide +kernel
theorem d_PG_paragraphOf_15 : decode b_PG_paragraphOf 15 = .ok (.aaload, 1) := by decide +kernel
theorem d_PG_paragraphOf_16 : decode b_PG_paragraphOf 16 = .ok (.iload_n 1, 1) := by decide +kernel
theorem d_PG_paragraphOf_17 : decode b_PG_paragraphOf 17 = .ok (.iaload, 1) := by decide +kernel
theorem d_PG_paragraphOf_18 : decode b_PG_paragraphOf 18 = .ok (.aaload, 1) := by decide +kernel
theorem d_PG_paragraphOf_19 : decode b_PG_paragraphOf 19 = .ok (.areturn, 1) := by decide +kernel
theorem d_PG_bottomOf_0 : decode b_PG_bottomOf 0 = .ok (.aload_n 0, 1) := by decide +kernel
theorem d_PG_bottomOf_1 : decode b_PG_bottomOf 1 = .ok (.getfield 24, 3) := by decide +kernel
theorem d_PG_bottomOf_4 : decode b_PG_bottomOf 4 = .ok (.getfield 49, 3) := by decide +kernel
theorem d_PG_bottomOf_7 : decode b_PG_bottomOf 7 = .ok (.bipush 7, 2) := by decide +kernel
theorem d_PG_bottomOf_9 : decode b_PG_bottomOf 9 = .ok (.aaload, 1) := by decide +kernel
theorem d_PG_bottomOf_10 : decode b_PG_bottomOf 10 = .ok (.iload_n 1, 1) := by decide +kernel
theorem d_PG_bottomOf_11 : decode b_PG_bottomOf 11 = .ok (.iaload, 1) := by decide +kernel
theorem d_PG_bottomOf_12 : decode b_PG_bottomOf 12 = .ok (.aload_n 0, 1) := by decide +kernel
theorem d_PG_bottomOf_13 : decode b_PG_bottomOf 13 = .ok (.getfield 24, 3) := by decide +kernel
theorem d_PG_bottomOf_16 : decode b_PG_bottomOf 16 = .ok (.getfield 49, 3) := by decide +kernel
theorem d_PG_bottomOf_19 : decode b_PG_bottomOf 19 = .ok (.iconst 5, 1) := by decide +kernel
theorem d_PG_bottomOf_20 : decode b_PG_bottomOf 20 = .ok (.aaload, 1) := by decide +kernel
theorem d_PG_bottomOf_21 : decode b_PG_bottomOf 21 = .ok (.iload_n 1, 1) := by decide +kernel
theorem d_PG_bottomOf_22 : decode b_PG_bottomOf 22 = .ok (.iaload, 1) := by decide +kernel
theorem d_PG_bottomOf_23 : decode b_PG_bottomOf 23 = .ok (.iadd, 1) := by decide +kernel
theorem d_PG_bottomOf_24 : decode b_PG_bottomOf 24 = .ok (.ireturn, 1) := by decide +kernel
theorem d_PG_spaceAhead_0 : decode b_PG_spaceAhead 0 = .ok (.aload_n 0, 1) := by decide +kernel
theorem d_PG_spaceAhead_1 : decode b_PG_spaceAhead 1 = .ok (.getfield 24, 3) := by decide +kernel
theorem d_PG_spaceAhead_4 : decode b_PG_spaceAhead 4 = .ok (.iload_n 1, 1) := by decide +kernel
theorem d_PG_spaceAhead_5 : decode b_PG_spaceAhead 5 = .ok (.invokevirtual 71, 3) := by decide +kernel
theorem d_PG_spaceAhead_8 : decode b_PG_spaceAhead 8 = .ok (.ifCond .ne 5, 3) := by decide +kernel
theorem d_PG_spaceAhead_11 : decode b_PG_spaceAhead 11 = .ok (.iconst 0, 1) := by decide +kernel
theorem d_PG_spaceAhead_12 : decode b_PG_spaceAhead 12 = .ok (.ireturn, 1) := by decide +kernel
theorem d_PG_spaceAhead_13 : decode b_PG_spaceAhead 13 = .ok (.aload_n 0, 1) := by decide +kernel
theorem d_PG_spaceAhead_14 : decode b_PG_spaceAhead 14 = .ok (.iload_n 1, 1) := by decide +kernel
theorem d_PG_spaceAhead_15 : decode b_PG_spaceAhead 15 = .ok (.iconst 1, 1) := by decide +kernel
theorem d_PG_spaceAhead_16 : decode b_PG_spaceAhead 16 = .ok (.isub, 1) := by decide +kernel
theorem d_PG_spaceAhead_17 : decode b_PG_spaceAhead 17 = .ok (.invokevirtual 74, 3) := by decide +kernel
theorem d_PG_spaceAhead_20 : decode b_PG_spaceAhead 20 = .ok (.getfield 78, 3) := by decide +kernel
theorem d_PG_spaceAhead_23 : decode b_PG_spaceAhead 23 = .ok (.iconst 4, 1) := by decide +kernel
theorem d_PG_spaceAhead_24 : decode b_PG_spaceAhead 24 = .ok (.iaload, 1) := by decide +kernel
theorem d_PG_spaceAhead_25 : decode b_PG_spaceAhead 25 = .ok (.aload_n 0, 1) := by decide +kernel
theorem d_PG_spaceAhead_26 : decode b_PG_spaceAhead 26 = .ok (.iload_n 1, 1) := by decide +kernel
theorem d_PG_spaceAhead_27 : decode b_PG_spaceAhead 27 = .ok (.invokevirtual 74, 3) := by decide +kernel
theorem d_PG_spaceAhead_30 : decode b_PG_spaceAhead 30 = .ok (.getfield 78, 3) := by decide +kernel
theorem d_PG_spaceAhead_33 : decode b_PG_spaceAhead 33 = .ok (.iconst 3, 1) := by decide +kernel
theorem d_PG_spaceAhead_34 : decode b_PG_spaceAhead 34 = .ok (.iaload, 1) := by decide +kernel
theorem d_PG_spaceAhead_35 : decode b_PG_spaceAhead 35 = .ok (.iadd, 1) := by decide +kernel
theorem d_PG_spaceAhead_36 : decode b_PG_spaceAhead 36 = .ok (.ireturn, 1) := by decide +kernel
theorem d_PG_mayEndAhead_0 : decode b_PG_mayEndAhead 0 = .ok (.aload_n 0, 1) := by decide +kernel
theorem d_PG_mayEndAhead_1 : decode b_PG_mayEndAhead 1 = .ok (.iload_n 1, 1) := by decide +kernel
theorem d_PG_mayEndAhead_2 : decode b_PG_mayEndAhead 2 = .ok (.iconst 1, 1) := by decide +kernel
theorem d_PG_mayEndAhead_3 : decode b_PG_mayEndAhead 3 = .ok (.isub, 1) := by decide +kernel
theorem d_PG_mayEndAhead_4 : decode b_PG_mayEndAhead 4 = .ok (.invokevirtual 74, 3) := by decide +kernel
theorem d_PG_mayEndAhead_7 : decode b_PG_mayEndAhead 7 = .ok (.getfield 78, 3) := by decide +kernel
theorem d_PG_mayEndAhead_10 : decode b_PG_mayEndAhead 10 = .ok (.astore_n 2, 1) := by decide +kernel
theorem d_PG_mayEndAhead_11 : decode b_PG_mayEndAhead 11 = .ok (.aload_n 0, 1) := by decide +kernel
theorem d_PG_mayEndAhead_12 : decode b_PG_mayEndAhead 12 = .ok (.getfield 24, 3) := by decide +kernel
theorem d_PG_mayEndAhead_15 : decode b_PG_mayEndAhead 15 = .ok (.iload_n 1, 1) := by decide +kernel
theorem d_PG_mayEndAhead_16 : decode b_PG_mayEndAhead 16 = .ok (.invokevirtual 71, 3) := by decide +kernel
theorem d_PG_mayEndAhead_19 : decode b_PG_mayEndAhead 19 = .ok (.ifCond .eq 16, 3) := by decide +kernel
theorem d_PG_mayEndAhead_22 : decode b_PG_mayEndAhead 22 = .ok (.aload_n 2, 1) := by decide +kernel
theorem d_PG_mayEndAhead_23 : decode b_PG_mayEndAhead 23 = .ok (.bipush 6, 2) := by decide +kernel
theorem d_PG_mayEndAhead_25 : decode b_PG_mayEndAhead 25 = .ok (.iaload, 1) := by decide +kernel
theorem d_PG_mayEndAhead_26 : decode b_PG_mayEndAhead 26 = .ok (.ifCond .ne 7, 3) := by decide +kernel
theorem d_PG_mayEndAhead_29 : decode b_PG_mayEndAhead 29 = .ok (.iconst 1, 1) := by decide +kernel
theorem d_PG_mayEndAhead_30 : decode b_PG_mayEndAhead 30 = .ok (.goto 4, 3) := by decide +kernel
theorem d_PG_mayEndAhead_33 : decode b_PG_mayEndAhead 33 = .ok (.iconst 0, 1) := by decide +kernel
theorem d_PG_mayEndAhead_34 : decode b_PG_mayEndAhead 34 = .ok (.ireturn, 1) := by decide +kernel
theorem d_PG_mayEndAhead_35 : decode b_PG_mayEndAhead 35 = .ok (.aload_n 0, 1) := by decide +kernel
theorem d_PG_mayEndAhead_36 : decode b_PG_mayEndAhead 36 = .ok (.getfield 24, 3) := by decide +kernel
theorem d_PG_mayEndAhead_39 : decode b_PG_mayEndAhead 39 = .ok (.iload_n 1, 1) := by decide +kernel
theorem d_PG_mayEndAhead_40 : decode b_PG_mayEndAhead 40 = .ok (.iconst 1, 1) := by decide +kernel
theorem d_PG_mayEndAhead_41 : decode b_PG_mayEndAhead 41 = .ok (.isub, 1) := by decide +kernel
theorem d_PG_mayEndAhead_42 : decode b_PG_mayEndAhead 42 = .ok (.invokevirtual 71, 3) := by decide +kernel
theorem d_PG_mayEndAhead_45 : decode b_PG_mayEndAhead 45 = .ok (.ifCond .ne 14, 3) := by decide +kernel
theorem d_PG_mayEndAhead_48 : decode b_PG_mayEndAhead 48 = .ok (.aload_n 0, 1) := by decide +kernel
theorem d_PG_mayEndAhead_49 : decode b_PG_mayEndAhead 49 = .ok (.getfield 24, 3) := by decide +kernel
theorem d_PG_mayEndAhead_52 : decode b_PG_mayEndAhead 52 = .ok (.iload_n 1, 1) := by decide +kernel
theorem d_PG_mayEndAhead_53 : decode b_PG_mayEndAhead 53 = .ok (.invokevirtual 93, 3) := by decide +kernel
theorem d_PG_mayEndAhead_56 : decode b_PG_mayEndAhead 56 = .ok (.ifCond .eq 7, 3) := by decide +kernel
theorem d_PG_mayEndAhead_59 : decode b_PG_mayEndAhead 59 = .ok (.iconst 1, 1) := by decide +kernel
theorem d_PG_mayEndAhead_60 : decode b_PG_mayEndAhead 60 = .ok (.goto 4, 3) := by decide +kernel
theorem d_PG_mayEndAhead_63 : decode b_PG_mayEndAhead 63 = .ok (.iconst 0, 1) := by decide +kernel
theorem d_PG_mayEndAhead_64 : decode b_PG_mayEndAhead 64 = .ok (.istore_n 3, 1) := by decide +kernel
theorem d_PG_mayEndAhead_65 : decode b_PG_mayEndAhead 65 = .ok (.aload_n 2, 1) := by decide +kernel
theorem d_PG_mayEndAhead_66 : decode b_PG_mayEndAhead 66 = .ok (.bipush 7, 2) := by decide +kernel
theorem d_PG_mayEndAhead_68 : decode b_PG_mayEndAhead 68 = .ok (.iaload, 1) := by decide +kernel
theorem d_PG_mayEndAhead_69 : decode b_PG_mayEndAhead 69 = .ok (.ifCond .ne 18, 3) := by decide +kernel
theorem d_PG_mayEndAhead_72 : decode b_PG_mayEndAhead 72 = .ok (.aload_n 2, 1) := by decide +kernel
theorem d_PG_mayEndAhead_73 : decode b_PG_mayEndAhead 73 = .ok (.bipush 8, 2) := by decide +kernel
theorem d_PG_mayEndAhead_75 : decode b_PG_mayEndAhead 75 = .ok (.iaload, 1) := by decide +kernel
theorem d_PG_mayEndAhead_76 : decode b_PG_mayEndAhead 76 = .ok (.ifCond .eq 7, 3) := by decide +kernel
theorem d_PG_mayEndAhead_79 : decode b_PG_mayEndAhead 79 = .ok (.iload_n 3, 1) := by decide +kernel
theorem d_PG_mayEndAhead_80 : decode b_PG_mayEndAhead 80 = .ok (.ifCond .ne 7, 3) := by decide +kernel
theorem d_PG_mayEndAhead_83 : decode b_PG_mayEndAhead 83 = .ok (.iconst 1, 1) := by decide +kernel
theorem d_PG_mayEndAhead_84 : decode b_PG_mayEndAhead 84 = .ok (.goto 4, 3) := by decide +kernel
theorem d_PG_mayEndAhead_87 : decode b_PG_mayEndAhead 87 = .ok (.iconst 0, 1) := by decide +kernel
theorem d_PG_mayEndAhead_88 : decode b_PG_mayEndAhead 88 = .ok (.ireturn, 1) := by decide +kernel
theorem d_PL_count_0 : decode b_PL_count 0 = .ok (.iload_n 1, 1) := by decide +kernel
theorem d_PL_count_1 : decode b_PL_count 1 = .ok (.tableswitch 63 0 3 #[31, 39, 47, 55], 31) := by decide +kernel
theorem d_PL_count_32 : decode b_PL_count 32 = .ok (.aload_n 0, 1) := by decide +kernel
theorem d_PL_count_33 : decode b_PL_count 33 = .ok (.getfield 12, 3) := by decide +kernel
theorem d_PL_count_36 : decode b_PL_count 36 = .ok (.getfield 45, 3) := by decide +kernel
theorem d_PL_count_39 : decode b_PL_count 39 = .ok (.ireturn, 1) := by decide +kernel
theorem d_PL_count_40 : decode b_PL_count 40 = .ok (.aload_n 0, 1) := by decide +kernel
theorem d_PL_count_41 : decode b_PL_count 41 = .ok (.getfield 12, 3) := by decide +kernel
theorem d_PL_count_44 : decode b_PL_count 44 = .ok (.getfield 49, 3) := by decide +kernel
theorem d_PL_count_47 : decode b_PL_count 47 = .ok (.ireturn, 1) := by decide +kernel
theorem d_PL_count_48 : decode b_PL_count 48 = .ok (.aload_n 0, 1) := by decide +kernel
theorem d_PL_count_49 : decode b_PL_count 49 = .ok (.getfield 28, 3) := by decide +kernel
theorem d_PL_count_52 : decode b_PL_count 52 = .ok (.getfield 140, 3) := by decide +kernel
theorem d_PL_count_55 : decode b_PL_count 55 = .ok (.ireturn, 1) := by decide +kernel
theorem d_PL_count_56 : decode b_PL_count 56 = .ok (.aload_n 0, 1) := by decide +kernel
theorem d_PL_count_57 : decode b_PL_count 57 = .ok (.getfield 37, 3) := by decide +kernel
theorem d_PL_count_60 : decode b_PL_count 60 = .ok (.getfield 137, 3) := by decide +kernel
theorem d_PL_count_63 : decode b_PL_count 63 = .ok (.ireturn, 1) := by decide +kernel
theorem d_PL_count_64 : decode b_PL_count 64 = .ok (.iconst (-1), 1) := by decide +kernel
theorem d_PL_count_65 : decode b_PL_count 65 = .ok (.ireturn, 1) := by decide +kernel
theorem d_PL_isOutside_0 : decode b_PL_isOutside 0 = .ok (.iload_n 0, 1) := by decide +kernel
theorem d_PL_isOutside_1 : decode b_PL_isOutside 1 = .ok (.iload_n 1, 1) := by decide +kernel
theorem d_PL_isOutside_2 : decode b_PL_isOutside 2 = .ok (.if_icmp .lt 8, 3) := by decide +kernel
theorem d_PL_isOutside_5 : decode b_PL_isOutside 5 = .ok (.iload_n 0, 1) := by decide +kernel
theorem d_PL_isOutside_6 : decode b_PL_isOutside 6 = .ok (.iload_n 2, 1) := by decide +kernel
theorem d_PL_isOutside_7 : decode b_PL_isOutside 7 = .ok (.if_icmp .le 7, 3) := by decide +kernel
theorem d_PL_isOutside_10 : decode b_PL_isOutside 10 = .ok (.iconst 1, 1) := by decide +kernel
theorem d_PL_isOutside_11 : decode b_PL_isOutside 11 = .ok (.goto 4, 3) := by decide +kernel
theorem d_PL_isOutside_14 : decode b_PL_isOutside 14 = .ok (.iconst 0, 1) := by decide +kernel
theorem d_PL_isOutside_15 : decode b_PL_isOutside 15 = .ok (.ireturn, 1) := by decide +kernel
theorem d_PG_lineAt_0 : decode b_PG_lineAt 0 = .ok (.aload_n 0, 1) := by decide +kernel
theorem d_PG_lineAt_1 : decode b_PG_lineAt 1 = .ok (.getfield 11, 3) := by decide +kernel
theorem d_PG_lineAt_4 : decode b_PG_lineAt 4 = .ok (.iconst 0, 1) := by decide +kernel
theorem d_PG_lineAt_5 : decode b_PG_lineAt 5 = .ok (.aaload, 1) := by decide +kernel
theorem d_PG_lineAt_6 : decode b_PG_lineAt 6 = .ok (.iload_n 1, 1) := by decide +kernel
theorem d_PG_lineAt_7 : decode b_PG_lineAt 7 = .ok (.iaload, 1) := by decide +kernel
theorem d_PG_lineAt_8 : decode b_PG_lineAt 8 = .ok (.istore_n 3, 1) := by decide +kernel
theorem d_PG_lineAt_9 : decode b_PG_lineAt 9 = .ok (.iload_n 3, 1) := by decide +kernel
theorem d_PG_lineAt_10 : decode b_PG_lineAt 10 = .ok (.aload_n 0, 1) := by decide +kernel
theorem d_PG_lineAt_11 : decode b_PG_lineAt 11 = .ok (.getfield 11, 3) := by decide +kernel
theorem d_PG_lineAt_14 : decode b_PG_lineAt 14 = .ok (.iconst 1, 1) := by decide +kernel
theorem d_PG_lineAt_15 : decode b_PG_lineAt 15 = .ok (.aaload, 1) := by decide +kernel
theorem d_PG_lineAt_16 : decode b_PG_lineAt 16 = .ok (.iload_n 1, 1) := by decide +kernel
theorem d_PG_lineAt_17 : decode b_PG_lineAt 17 = .ok (.iaload, 1) := by decide +kernel
theorem d_PG_lineAt_18 : decode b_PG_lineAt 18 = .ok (.iadd, 1) := by decide +kernel
theorem d_PG_lineAt_19 : decode b_PG_lineAt 19 = .ok (.iconst 1, 1) := by decide +kernel
theorem d_PG_lineAt_20 : decode b_PG_lineAt 20 = .ok (.isub, 1) := by decide +kernel
theorem d_PG_lineAt_21 : decode b_PG_lineAt 21 = .ok (.istore 4, 2) := by decide +kernel
theorem d_PG_lineAt_23 : decode b_PG_lineAt 23 = .ok (.iload 4, 2) := by decide +kernel
theorem d_PG_lineAt_25 : decode b_PG_lineAt 25 = .ok (.iload_n 3, 1) := by decide +kernel
theorem d_PG_lineAt_26 : decode b_PG_lineAt 26 = .ok (.if_icmp .le 26, 3) := by decide +kernel
theorem d_PG_lineAt_29 : decode b_PG_lineAt 29 = .ok (.aload_n 0, 1) := by decide +kernel
theorem d_PG_lineAt_30 : decode b_PG_lineAt 30 = .ok (.getfield 24, 3) := by decide +kernel
theorem d_PG_lineAt_33 : decode b_PG_lineAt 33 = .ok (.getfield 49, 3) := by decide +kernel
theorem d_PG_lineAt_36 : decode b_PG_lineAt 36 = .ok (.bipush 7, 2) := by decide +kernel
theorem d_PG_lineAt_38 : decode b_PG_lineAt 38 = .ok (.aaload, 1) := by decide +kernel
theorem d_PG_lineAt_39 : decode b_PG_lineAt 39 = .ok (.iload 4, 2) := by decide +kernel
theorem d_PG_lineAt_41 : decode b_PG_lineAt 41 = .ok (.iaload, 1) := by decide +kernel
theorem d_PG_lineAt_42 : decode b_PG_lineAt 42 = .ok (.iload_n 2, 1) := by decide +kernel
theorem d_PG_lineAt_43 : decode b_PG_lineAt 43 = .ok (.if_icmp .le 9, 3) := by decide +kernel
theorem d_PG_lineAt_46 : decode b_PG_lineAt 46 = .ok (.iinc 4 (-1), 3) := by decide +kernel
theorem d_PG_lineAt_49 : decode b_PG_lineAt 49 = .ok (.goto (-26), 3) := by decide +kernel
theorem d_PG_lineAt_52 : decode b_PG_lineAt 52 = .ok (.iload 4, 2) := by decide +kernel
theorem d_PG_lineAt_54 : decode b_PG_lineAt 54 = .ok (.ireturn, 1) := by decide +kernel
end
section
set_option maxHeartbeats 4000000 in
set_option maxRecDepth 100000 in
/-- Pages.bottomOf -/
theorem c_bottomOf (l : Launch) {D : va_G} {ad : Nat → Nat} {cs : pg_C} {rp : Option Nat} {M : Nat → Nat → Int} (w : Nat) (hw : w < 630) : Met l y_PG_bottomOf ws_PG_bottomOf ({ frames := 0, cells := 0, slots := 0, locals := 0 } : Room) (va_Pc [.ref (ad (5)), .int (iI (((w : Nat) : Int)))] (ro_B D vwCl (pg_tys cs) (pg_w ad cs rp M))) (vp_Si (fun r => r = iI (M 20 w + M 18 w))) 0 0 (fun _ => False) := by
  refine Met.ofW (cc := b_PG_bottomOf) (maxL := 2) (ret := (some .int)) (by decide) rfl ?_
  intro p e s m args below meth c s₁ B hml hv
  obtain ⟨rfl, hP, hK⟩ := hv
  have hx := B.exec
  have hb := B.bytes
  have hr := B.returns
  have hts := atoms_spec (ws := ws_PG_bottomOf) B.pre
  have hg : ∀ w ∈ gt, w.before _ s = true := fun w h => hts w (List.mem_cons_of_mem _ h)
  have hown : s.vm.findClass R_PG = some m.cls := findClass_of_methodNamed B.named
  have hlocks := B.notSynchronized
  have hl := lv_entry ([.ref (ad (5)), .int (iI (((w : Nat) : Int)))]) (n := 2) (Nat.le_of_ble_eq_true rfl)
  rw [lg_entry_eq]
  generalize (lg_sl ([.ref (ad (5)), .int (iI (((w : Nat) : Int)))]) ++ List.replicate (2 - (lg_sl ([.ref (ad (5)), .int (iI (((w : Nat) : Int)))])).length) Slot.unset).toArray = ls at hl ⊢
  have hl : lv_has ls 2 [(0, .ref (ad (5))), (1, .int (iI (((w : Nat) : Int))))] := hl
  refine lv_aload_n hx hb d_PG_bottomOf_0 rfl (lv_at hl 0 rfl) ?_
  refine z_get (ci := 5) (C := R_PG) (T := T_PG) (N := 5) (v := .ref (ad (3))) hx hb hg in_PG hown hK hP (5) (by decide) rfl rfl 4 (by decide) (hg _ (List.mem_append_right _ (List.mem_append_right _ (List.mem_append_right _ (List.mem_append_right _ (List.mem_append_left _ (List.mem_of_getElem? (i := 33) rfl))))))) (fun _ h9 => h9) rfl d_PG_bottomOf_1 ?_
  refine z_get (ci := 3) (C := R_LN) (T := T_LN) (N := 6) (v := .ref (ad (10))) hx hb hg in_LN hown hK hP (3) (by decide) rfl rfl 0 (by decide) (hg _ (List.mem_append_right _ (List.mem_append_right _ (List.mem_append_right _ (List.mem_append_right _ (List.mem_append_left _ (List.mem_of_getElem? (i := 4) rfl))))))) (fun _ h9 => h9) rfl d_PG_bottomOf_4 ?_
  refine z_bipush hx hb (z := 7) d_PG_bottomOf_7 (by decide) ?_
  refine z_aald hx hb hK hP (10) 1 (by decide) (fun _ => rfl) rfl rfl (7) rfl (by decide) (by decide) d_PG_bottomOf_9 ?_
  refine lv_iload_n hx hb d_PG_bottomOf_10 rfl (lv_at hl 1 rfl) ?_
  refine z_iald hx hb hK hP (20) 0 (by decide) (fun _ => rfl) rfl (w) rfl (by omega) (by decide) d_PG_bottomOf_11 ?_
  refine lv_aload_n hx hb d_PG_bottomOf_12 rfl (lv_at hl 0 rfl) ?_
  refine z_get (ci := 5) (C := R_PG) (T := T_PG) (N := 5) (v := .ref (ad (3))) hx hb hg in_PG hown hK hP (5) (by decide) rfl rfl 4 (by decide) (hg _ (List.mem_append_right _ (List.mem_append_right _ (List.mem_append_right _ (List.mem_append_right _ (List.mem_append_left _ (List.mem_of_getElem? (i := 33) rfl))))))) (fun _ h9 => h9) rfl d_PG_bottomOf_13 ?_
  refine z_get (ci := 3) (C := R_LN) (T := T_LN) (N := 6) (v := .ref (ad (10))) hx hb hg in_LN hown hK hP (3) (by decide) rfl rfl 0 (by decide) (hg _ (List.mem_append_right _ (List.mem_append_right _ (List.mem_append_right _ (List.mem_append_right _ (List.mem_append_left _ (List.mem_of_getElem? (i := 4) rfl))))))) (fun _ h9 => h9) rfl d_PG_bottomOf_16 ?_
  refine z_iconst hx hb (z := 5) d_PG_bottomOf_19 ?_
  refine z_aald hx hb hK hP (10) 1 (by decide) (fun _ => rfl) rfl rfl (5) rfl (by decide) (by decide) d_PG_bottomOf_20 ?_
  refine lv_iload_n hx hb d_PG_bottomOf_21 rfl (lv_at hl 1 rfl) ?_
  refine z_iald hx hb hK hP (18) 0 (by decide) (fun _ => rfl) rfl (w) rfl (by omega) (by decide) d_PG_bottomOf_22 ?_
  refine z_iadd hx hb d_PG_bottomOf_23 (v := (M (20) (w) + M (18) (w))) rfl ?_
  exact W.iret (v := iI ((M (20) (w) + M (18) (w)))) hx hb hr (fun t ht hW => ⟨_, rfl, rfl, ht⟩) (fun q h => by cases h) d_PG_bottomOf_24
set_option maxHeartbeats 4000000 in
set_option maxRecDepth 100000 in
/-- Pages.paragraphOf -/
theorem c_paragraphOf (l : Launch) {D : va_G} {ad : Nat → Nat} {cs : pg_C} {rp : Option Nat} {M : Nat → Nat → Int} (w q : Nat) (hw : w < 630) (hq : q < 30) (h13 : M 13 w = ((q : Nat) : Int)) : Met l y_PG_paragraphOf ws_PG_paragraphOf ({ frames := 0, cells := 0, slots := 0, locals := 0 } : Room) (va_Pc [.ref (ad (5)), .int (iI (((w : Nat) : Int)))] (ro_B D vwCl (pg_tys cs) (pg_w ad cs rp M))) (va_Sr (fun k => k = ad (29 + 4 * q)) (fun k => .ref k)) 0 0 (fun _ => False) := by
  refine Met.ofW (cc := b_PG_paragraphOf) (maxL := 2) (ret := (some (.object "PageLayout$Paragraph"))) (by decide) rfl ?_
  intro p e s m args below meth c s₁ B hml hv
  obtain ⟨rfl, hP, hK⟩ := hv
  have hx := B.exec
  have hb := B.bytes
  have hr := B.returns
  have hts := atoms_spec (ws := ws_PG_paragraphOf) B.pre
  have hg : ∀ w ∈ gt, w.before _ s = true := fun w h => hts w (List.mem_cons_of_mem _ h)
  have hown : s.vm.findClass R_PG = some m.cls := findClass_of_methodNamed B.named
  have hlocks := B.notSynchronized
  have hl := lv_entry ([.ref (ad (5)), .int (iI (((w : Nat) : Int)))]) (n := 2) (Nat.le_of_ble_eq_true rfl)
  rw [lg_entry_eq]
  generalize (lg_sl ([.ref (ad (5)), .int (iI (((w : Nat) : Int)))]) ++ List.replicate (2 - (lg_sl ([.ref (ad (5)), .int (iI (((w : Nat) : Int)))])).length) Slot.unset).toArray = ls at hl ⊢
  have hl : lv_has ls 2 [(0, .ref (ad (5))), (1, .int (iI (((w : Nat) : Int))))] := hl
  refine lv_aload_n hx hb d_PG_paragraphOf_0 rfl (lv_at hl 0 rfl) ?_
  refine z_get (ci := 5) (C := R_PG) (T := T_PG) (N := 5) (v := .ref (ad (1))) hx hb hg in_PG hown hK hP (5) (by decide) rfl rfl 2 (by decide) (hg _ (List.mem_append_right _ (List.mem_append_right _ (List.mem_append_right _ (List.mem_append_right _ (List.mem_append_left _ (List.mem_of_getElem? (i := 31) rfl))))))) (fun _ h9 => h9) rfl d_PG_paragraphOf_1 ?_
  refine z_get (ci := 1) (C := R_TX) (T := T_TX) (N := 6) (v := .ref (ad (6))) hx hb hg in_TX hown hK hP (1) (by decide) rfl rfl 0 (by decide) (hg _ (List.mem_append_right _ (List.mem_append_right _ (List.mem_append_left _ (List.mem_of_getElem? (i := 19) rfl))))) (fun _ h9 => h9) rfl d_PG_paragraphOf_4 ?_
  refine lv_aload_n hx hb d_PG_paragraphOf_7 rfl (lv_at hl 0 rfl) ?_
  refine z_get (ci := 5) (C := R_PG) (T := T_PG) (N := 5) (v := .ref (ad (3))) hx hb hg in_PG hown hK hP (5) (by decide) rfl rfl 4 (by decide) (hg _ (List.mem_append_right _ (List.mem_append_right _ (List.mem_append_right _ (List.mem_append_right _ (List.mem_append_left _ (List.mem_of_getElem? (i := 33) rfl))))))) (fun _ h9 => h9) rfl d_PG_paragraphOf_8 ?_
  refine z_get (ci := 3) (C := R_LN) (T := T_LN) (N := 6) (v := .ref (ad (10))) hx hb hg in_LN hown hK hP (3) (by decide) rfl rfl 0 (by decide) (hg _ (List.mem_append_right _ (List.mem_append_right _ (List.mem_append_right _ (List.mem_append_right _ (List.mem_append_left _ (List.mem_of_getElem? (i := 4) rfl))))))) (fun _ h9 => h9) rfl d_PG_paragraphOf_11 ?_
  refine z_iconst hx hb (z := 0) d_PG_paragraphOf_14 ?_
  refine z_aald hx hb hK hP (10) 1 (by decide) (fun _ => rfl) rfl rfl (0) rfl (by decide) (by decide) d_PG_paragraphOf_15 ?_
  refine lv_iload_n hx hb d_PG_paragraphOf_16 rfl (lv_at hl 1 rfl) ?_
  refine z_iald hx hb hK hP (13) 0 (by decide) (fun _ => rfl) rfl (w) rfl (by omega) (by decide) d_PG_paragraphOf_17 ?_
  refine z_aald hx hb hK hP (6) 2 (by decide) (fun _ => rfl) rfl rfl (q) h13 (by omega) (by decide) d_PG_paragraphOf_18 ?_
  exact W.aret (v := .ref (ad (29 + 4 * q))) hx hb hr (Or.inl ⟨_, rfl⟩) (Or.inr ⟨_, rfl⟩) (fun t ht hW => ⟨_, rfl, rfl, ht⟩) (fun q h => by cases h) d_PG_paragraphOf_19
set_option maxHeartbeats 4000000 in
set_option maxRecDepth 100000 in
/-- Pages.spaceAhead -/
theorem c_spaceAhead (l : Launch) {D : va_G} {ad : Nat → Nat} {cs : pg_C} {rp : Option Nat} {M : Nat → Nat → Int} (w q1 q2 : Nat) (hw1 : 1 ≤ w) (hw : w < 630) (hq1 : q1 < 30) (hq2 : q2 < 30) (h13q1 : M 13 (w - 1) = ((q1 : Nat) : Int)) (h13q2 : M 13 w = ((q2 : Nat) : Int)) (hz : ∀ j, zb (M 13 j)) : Met l y_PG_spaceAhead ws_PG_spaceAhead ({ frames := 1, cells := 0, slots := 0, locals := 21 } : Room) (va_Pc [.ref (ad (5)), .int (iI (((w : Nat) : Int)))] (ro_B D vwCl (pg_tys cs) (pg_w ad cs rp M))) (vp_Si (fun r => r = iI (if p_first (M 13) w then M (30 + 4 * q1) 4 + M (30 + 4 * q2) 3 else 0))) 0 0 (fun _ => False) := by
  refine Met.ofW (cc := b_PG_spaceAhead) (maxL := 2) (ret := (some .int)) (by decide) rfl ?_
  intro p e s m args below meth c s₁ B hml hv
  obtain ⟨rfl, hP, hK⟩ := hv
  have hx := B.exec
  have hb := B.bytes
  have hr := B.returns
  have hts := atoms_spec (ws := ws_PG_spaceAhead) B.pre
  have hg : ∀ w ∈ gt, w.before _ s = true := fun w h => hts w (List.mem_cons_of_mem _ h)
  have hown : s.vm.findClass R_PG = some m.cls := findClass_of_methodNamed B.named
  have hlocks := B.notSynchronized
  have hl := lv_entry ([.ref (ad (5)), .int (iI (((w : Nat) : Int)))]) (n := 2) (Nat.le_of_ble_eq_true rfl)
  rw [lg_entry_eq]
  generalize (lg_sl ([.ref (ad (5)), .int (iI (((w : Nat) : Int)))]) ++ List.replicate (2 - (lg_sl ([.ref (ad (5)), .int (iI (((w : Nat) : Int)))])).length) Slot.unset).toArray = ls at hl ⊢
  have hl : lv_has ls 2 [(0, .ref (ad (5))), (1, .int (iI (((w : Nat) : Int))))] := hl
  refine lv_aload_n hx hb d_PG_spaceAhead_0 rfl (lv_at hl 0 rfl) ?_
  refine z_get (ci := 5) (C := R_PG) (T := T_PG) (N := 5) (v := .ref (ad (3))) hx hb hg in_PG hown hK hP (5) (by decide) rfl rfl 4 (by decide) (hg _ (List.mem_append_right _ (List.mem_append_right _ (List.mem_append_right _ (List.mem_append_right _ (List.mem_append_left _ (List.mem_of_getElem? (i := 33) rfl))))))) (fun _ h9 => h9) rfl d_PG_spaceAhead_1 ?_
  refine lv_iload_n hx hb d_PG_spaceAhead_4 rfl (lv_at hl 1 rfl) ?_
  refine ro_V (As := [.int (iI (((w : Nat) : Int)))]) (rest := []) (z := bz (p_first (M 13) (w)) inferInstance) ⟨hx, hb, hml, hown, hg⟩ (c_isFirst l (w) (by omega) hz) (cwV 1 hg (gt_V (List.mem_append_right _ (List.mem_append_right _ (List.mem_append_right _ (List.mem_append_right _ (List.mem_append_right _ (List.mem_append_right _ (List.mem_append_right _ (List.mem_append_right _ (List.mem_append_left _ (List.mem_of_getElem? (i := 9) rfl)))))))))) (List.mem_append_right _ (List.mem_append_right _ (List.mem_append_right _ (List.mem_append_right _ (List.mem_append_right _ (List.mem_append_right _ (List.mem_append_right _ (List.mem_append_right _ (List.mem_append_left _ (List.mem_of_getElem? (i := 10) rfl)))))))))) (List.mem_append_right _ (List.mem_append_right _ (List.mem_append_right _ (List.mem_append_right _ (List.mem_append_right _ (List.mem_append_right _ (List.mem_append_right _ (List.mem_append_right _ (List.mem_append_left _ (List.mem_of_getElem? (i := 11) rfl)))))))))) (List.mem_append_right _ (List.mem_append_left _ (List.mem_of_getElem? (i := 6) rfl))) (List.mem_append_right _ (List.mem_append_right _ (List.mem_append_right _ (List.mem_append_right _ (List.mem_append_right _ (List.mem_append_right _ (List.mem_append_right _ (List.mem_append_right _ (List.mem_append_left _ (List.mem_of_getElem? (i := 12) rfl))))))))))) rfl rfl rfl (by decide +kernel) ⟨Nat.le_of_ble_eq_true rfl, Nat.le_of_ble_eq_true rfl⟩) hK hP (va_recv hK hP (ci := 3) (q0 := 3) rfl (wl_atE (by decide) rfl)) rfl hl.1 rfl (Nat.le_of_ble_eq_true rfl) d_PG_spaceAhead_5 ⟨Nat.zero_le _, Nat.zero_le _⟩ ?_
  refine z_ifb_ne hx hb (tgt := 13) d_PG_spaceAhead_8 (by decide) (fun c_8 => ?_) (fun c_8 => ?_)
  · refine lv_aload_n hx hb d_PG_spaceAhead_13 rfl (lv_at hl 0 rfl) ?_
    refine lv_iload_n hx hb d_PG_spaceAhead_14 rfl (lv_at hl 1 rfl) ?_
    refine z_iconst hx hb (z := 1) d_PG_spaceAhead_15 ?_
    refine z_isub hx hb d_PG_spaceAhead_16 (v := ((w - 1 : Nat) : Int)) (by omega) ?_
    refine ro_Vr (As := [.int (iI (((w - 1 : Nat) : Int)))]) (rest := []) (x := (ad (29 + 4 * q1))) ⟨hx, hb, hml, hown, hg⟩ (c_paragraphOf l (w - 1) q1 (by omega) hq1 h13q1) (cwV 1 hg (gt_V (List.mem_append_right _ (List.mem_append_right _ (List.mem_append_right _ (List.mem_append_right _ (List.mem_append_right _ (List.mem_append_right _ (List.mem_append_right _ (List.mem_append_right _ (List.mem_append_left _ (List.mem_of_getElem? (i := 13) rfl)))))))))) (List.mem_append_right _ (List.mem_append_right _ (List.mem_append_right _ (List.mem_append_right _ (List.mem_append_right _ (List.mem_append_right _ (List.mem_append_right _ (List.mem_append_right _ (List.mem_append_left _ (List.mem_of_getElem? (i := 14) rfl)))))))))) (List.mem_append_left _ (List.mem_of_getElem? (i := 16) rfl)) (List.mem_append_right _ (List.mem_append_left _ (List.mem_of_getElem? (i := 8) rfl))) (List.mem_append_right _ (List.mem_append_right _ (List.mem_append_right _ (List.mem_append_right _ (List.mem_append_right _ (List.mem_append_right _ (List.mem_append_right _ (List.mem_append_right _ (List.mem_append_left _ (List.mem_of_getElem? (i := 15) rfl))))))))))) rfl rfl rfl (by decide +kernel) ⟨Nat.le_of_ble_eq_true rfl, Nat.le_of_ble_eq_true rfl⟩) hK hP (va_recv hK hP (ci := 5) (q0 := 5) rfl (wl_atE (by decide) rfl)) rfl hl.1 rfl (Nat.le_of_ble_eq_true rfl) d_PG_spaceAhead_17 ⟨Nat.zero_le _, Nat.zero_le _⟩ ?_
    refine z_get (ci := 6) (C := R_PA) (T := T_PA) (N := 6) (v := .ref (ad (30 + 4 * q1))) hx hb hg in_PA hown hK hP (29 + 4 * q1) (by omega) (pg_par _ _ _ _ _) rfl 0 (by decide) (hg _ (List.mem_append_right _ (List.mem_append_right _ (List.mem_append_left _ (List.mem_of_getElem? (i := 0) rfl))))) (fun _ h9 => h9) rfl d_PG_spaceAhead_20 ?_
    refine z_iconst hx hb (z := 4) d_PG_spaceAhead_23 ?_
    refine z_iald hx hb hK hP (30 + 4 * q1) 0 (by omega) (fun r => pg_shp _ _ _ _ r) rfl (4) rfl (by decide) (by decide) d_PG_spaceAhead_24 ?_
    refine lv_aload_n hx hb d_PG_spaceAhead_25 rfl (lv_at hl 0 rfl) ?_
    refine lv_iload_n hx hb d_PG_spaceAhead_26 rfl (lv_at hl 1 rfl) ?_
    refine ro_Vr (As := [.int (iI (((w : Nat) : Int)))]) (rest := [.int (iI (M (30 + 4 * q1) (4)))]) (x := (ad (29 + 4 * q2))) ⟨hx, hb, hml, hown, hg⟩ (c_paragraphOf l (w) q2 (by omega) hq2 h13q2) (cwV 1 hg (gt_V (List.mem_append_right _ (List.mem_append_right _ (List.mem_append_right _ (List.mem_append_right _ (List.mem_append_right _ (List.mem_append_right _ (List.mem_append_right _ (List.mem_append_right _ (List.mem_append_left _ (List.mem_of_getElem? (i := 13) rfl)))))))))) (List.mem_append_right _ (List.mem_append_right _ (List.mem_append_right _ (List.mem_append_right _ (List.mem_append_right _ (List.mem_append_right _ (List.mem_append_right _ (List.mem_append_right _ (List.mem_append_left _ (List.mem_of_getElem? (i := 14) rfl)))))))))) (List.mem_append_left _ (List.mem_of_getElem? (i := 16) rfl)) (List.mem_append_right _ (List.mem_append_left _ (List.mem_of_getElem? (i := 8) rfl))) (List.mem_append_right _ (List.mem_append_right _ (List.mem_append_right _ (List.mem_append_right _ (List.mem_append_right _ (List.mem_append_right _ (List.mem_append_right _ (List.mem_append_right _ (List.mem_append_left _ (List.mem_of_getElem? (i := 15) rfl))))))))))) rfl rfl rfl (by decide +kernel) ⟨Nat.le_of_ble_eq_true rfl, Nat.le_of_ble_eq_true rfl⟩) hK hP (va_recv hK hP (ci := 5) (q0 := 5) rfl (wl_atE (by decide) rfl)) rfl hl.1 rfl (Nat.le_of_ble_eq_true rfl) d_PG_spaceAhead_27 ⟨Nat.zero_le _, Nat.zero_le _⟩ ?_
    refine z_get (ci := 6) (C := R_PA) (T := T_PA) (N := 6) (v := .ref (ad (30 + 4 * q2))) hx hb hg in_PA hown hK hP (29 + 4 * q2) (by omega) (pg_par _ _ _ _ _) rfl 0 (by decide) (hg _ (List.mem_append_right _ (List.mem_append_right _ (List.mem_append_left _ (List.mem_of_getElem? (i := 0) rfl))))) (fun _ h9 => h9) rfl d_PG_spaceAhead_30 ?_
    refine z_iconst hx hb (z := 3) d_PG_spaceAhead_33 ?_
    refine z_iald hx hb hK hP (30 + 4 * q2) 0 (by omega) (fun r => pg_shp _ _ _ _ r) rfl (3) rfl (by decide) (by decide) d_PG_spaceAhead_34 ?_
    refine z_iadd hx hb d_PG_spaceAhead_35 (v := (M (30 + 4 * q1) (4) + M (30 + 4 * q2) (3))) rfl ?_
    exact W.iret (v := iI ((M (30 + 4 * q1) (4) + M (30 + 4 * q2) (3)))) hx hb hr (fun t ht hW => ⟨_, rfl, by first | rw [if_pos c_8] | rw [if_neg c_8], ht⟩) (fun q h => by cases h) d_PG_spaceAhead_36
  · refine z_iconst hx hb (z := 0) d_PG_spaceAhead_11 ?_
    exact W.iret (v := iI (0)) hx hb hr (fun t ht hW => ⟨_, rfl, by first | rw [if_pos c_8] | rw [if_neg c_8], ht⟩) (fun q h => by cases h) d_PG_spaceAhead_12
set_option maxHeartbeats 4000000 in
set_option maxRecDepth 100000 in
/-- Pages.mustEndAhead -/
theorem c_mustEndAhead (l : Launch) {D : va_G} {ad : Nat → Nat} {cs : pg_C} {rp : Option Nat} {M : Nat → Nat → Int} (w q2 : Nat) (hw1 : 1 ≤ w) (hw : w < 630) (hq2 : q2 < 30) (h13q2 : M 13 w = ((q2 : Nat) : Int)) (hz : ∀ j, zb (M 13 j)) (f k : Nat) (hf : M 14 (w - 1) = ((f : Nat) : Int)) (hk : M 15 (w - 1) = ((k : Nat) : Int)) (hfk : f + k ≤ 600) (hz7 : ∀ j, zb (M 7 j)) (hsh : ∀ j, zb (M (30 + 4 * q2) j)) : Met l y_PG_mustEndAhead ws_PG_mustEndAhead ({ frames := 1, cells := 0, slots := 0, locals := 22 } : Room) (va_Pc [.ref (ad (5)), .int (iI (((w : Nat) : Int)))] (ro_B D vwCl (pg_tys cs) (pg_w ad cs rp M))) (vp_Si (fun r => r = iI (bz (p_endp (M 7) f k ∨ (p_first (M 13) w ∧ M (30 + 4 * q2) 9 = 1)) inferInstance))) 0 0 (fun _ => False) := by
  refine Met.ofW (cc := b_PG_mustEndAhead) (maxL := 2) (ret := (some .boolean)) (by decide) rfl ?_
  intro p e s m args below meth c s₁ B hml hv
  obtain ⟨rfl, hP, hK⟩ := hv
  have hx := B.exec
  have hb := B.bytes
  have hr := B.returns
  have hts := atoms_spec (ws := ws_PG_mustEndAhead) B.pre
  have hg : ∀ w ∈ gt, w.before _ s = true := fun w h => hts w (List.mem_cons_of_mem _ h)
  have hown : s.vm.findClass R_PG = some m.cls := findClass_of_methodNamed B.named
  have hlocks := B.notSynchronized
  have hl := lv_entry ([.ref (ad (5)), .int (iI (((w : Nat) : Int)))]) (n := 2) (Nat.le_of_ble_eq_true rfl)
  rw [lg_entry_eq]
  generalize (lg_sl ([.ref (ad (5)), .int (iI (((w : Nat) : Int)))]) ++ List.replicate (2 - (lg_sl ([.ref (ad (5)), .int (iI (((w : Nat) : Int)))])).length) Slot.unset).toArray = ls at hl ⊢
  have hl : lv_has ls 2 [(0, .ref (ad (5))), (1, .int (iI (((w : Nat) : Int))))] := hl
  refine lv_aload_n hx hb d_PG_mustEndAhead_0 rfl (lv_at hl 0 rfl) ?_
  refine z_get (ci := 5) (C := R_PG) (T := T_PG) (N := 5) (v := .ref (ad (3))) hx hb hg in_PG hown hK hP (5) (by decide) rfl rfl 4 (by decide) (hg _ (List.mem_append_right _ (List.mem_append_right _ (List.mem_append_right _ (List.mem_append_right _ (List.mem_append_left _ (List.mem_of_getElem? (i := 33) rfl))))))) (fun _ h9 => h9) rfl d_PG_mustEndAhead_1 ?_
  refine lv_iload_n hx hb d_PG_mustEndAhead_4 rfl (lv_at hl 1 rfl) ?_
  refine z_iconst hx hb (z := 1) d_PG_mustEndAhead_5 ?_
  refine z_isub hx hb d_PG_mustEndAhead_6 (v := ((w - 1 : Nat) : Int)) (by omega) ?_
  refine ro_V (As := [.int (iI (((w - 1 : Nat) : Int)))]) (rest := []) (z := bz (p_endp (M 7) f k) inferInstance) ⟨hx, hb, hml, hown, hg⟩ (c_endsPage l (w - 1) f k (by omega) hf hk hfk hz7) (cwV 1 hg (gt_V (List.mem_append_right _ (List.mem_append_right _ (List.mem_append_right _ (List.mem_append_right _ (List.mem_append_right _ (List.mem_append_right _ (List.mem_append_right _ (List.mem_append_right _ (List.mem_append_left _ (List.mem_of_getElem? (i := 5) rfl)))))))))) (List.mem_append_right _ (List.mem_append_right _ (List.mem_append_right _ (List.mem_append_right _ (List.mem_append_right _ (List.mem_append_right _ (List.mem_append_right _ (List.mem_append_right _ (List.mem_append_left _ (List.mem_of_getElem? (i := 6) rfl)))))))))) (List.mem_append_right _ (List.mem_append_right _ (List.mem_append_right _ (List.mem_append_right _ (List.mem_append_right _ (List.mem_append_right _ (List.mem_append_right _ (List.mem_append_right _ (List.mem_append_left _ (List.mem_of_getElem? (i := 7) rfl)))))))))) (List.mem_append_right _ (List.mem_append_left _ (List.mem_of_getElem? (i := 6) rfl))) (List.mem_append_right _ (List.mem_append_right _ (List.mem_append_right _ (List.mem_append_right _ (List.mem_append_right _ (List.mem_append_right _ (List.mem_append_right _ (List.mem_append_right _ (List.mem_append_left _ (List.mem_of_getElem? (i := 8) rfl))))))))))) rfl rfl rfl (by decide +kernel) ⟨Nat.le_of_ble_eq_true rfl, Nat.le_of_ble_eq_true rfl⟩) hK hP (va_recv hK hP (ci := 3) (q0 := 3) rfl (wl_atE (by decide) rfl)) rfl hl.1 rfl (Nat.le_of_ble_eq_true rfl) d_PG_mustEndAhead_7 ⟨Nat.zero_le _, Nat.zero_le _⟩ ?_
  refine z_ifb_ne hx hb (tgt := 39) d_PG_mustEndAhead_10 (by decide) (fun c_10 => ?_) (fun c_10 => ?_)
  · refine z_iconst hx hb (z := 1) d_PG_mustEndAhead_39 ?_
    refine lv_goto (tgt := 44) hx hb d_PG_mustEndAhead_40 (by decide) ?_
    exact W.zret (v := iI (1)) hx hb hr (by first | rfl | decide) (fun t ht hW => ⟨_, rfl, by first | (rw [bz_t (by first | exact Or.inl c_10 | exact Or.inr ⟨c_21, c_36⟩)]; done) | (rw [bz_f (by rintro (h | ⟨h1, h2⟩) <;> first | exact c_10 h | exact c_21 h1 | exact c_36 h2)]; done), ht⟩) (fun q h => by cases h) d_PG_mustEndAhead_44
  · refine lv_aload_n hx hb d_PG_mustEndAhead_13 rfl (lv_at hl 0 rfl) ?_
    refine z_get (ci := 5) (C := R_PG) (T := T_PG) (N := 5) (v := .ref (ad (3))) hx hb hg in_PG hown hK hP (5) (by decide) rfl rfl 4 (by decide) (hg _ (List.mem_append_right _ (List.mem_append_right _ (List.mem_append_right _ (List.mem_append_right _ (List.mem_append_left _ (List.mem_of_getElem? (i := 33) rfl))))))) (fun _ h9 => h9) rfl d_PG_mustEndAhead_14 ?_
    refine lv_iload_n hx hb d_PG_mustEndAhead_17 rfl (lv_at hl 1 rfl) ?_
    refine ro_V (As := [.int (iI (((w : Nat) : Int)))]) (rest := []) (z := bz (p_first (M 13) (w)) inferInstance) ⟨hx, hb, hml, hown, hg⟩ (c_isFirst l (w) (by omega) hz) (cwV 1 hg (gt_V (List.mem_append_right _ (List.mem_append_right _ (List.mem_append_right _ (List.mem_append_right _ (List.mem_append_right _ (List.mem_append_right _ (List.mem_append_right _ (List.mem_append_right _ (List.mem_append_left _ (List.mem_of_getElem? (i := 9) rfl)))))))))) (List.mem_append_right _ (List.mem_append_right _ (List.mem_append_right _ (List.mem_append_right _ (List.mem_append_right _ (List.mem_append_right _ (List.mem_append_right _ (List.mem_append_right _ (List.mem_append_left _ (List.mem_of_getElem? (i := 10) rfl)))))))))) (List.mem_append_right _ (List.mem_append_right _ (List.mem_append_right _ (List.mem_append_right _ (List.mem_append_right _ (List.mem_append_right _ (List.mem_append_right _ (List.mem_append_right _ (List.mem_append_left _ (List.mem_of_getElem? (i := 11) rfl)))))))))) (List.mem_append_right _ (List.mem_append_left _ (List.mem_of_getElem? (i := 6) rfl))) (List.mem_append_right _ (List.mem_append_right _ (List.mem_append_right _ (List.mem_append_right _ (List.mem_append_right _ (List.mem_append_right _ (List.mem_append_right _ (List.mem_append_right _ (List.mem_append_left _ (List.mem_of_getElem? (i := 12) rfl))))))))))) rfl rfl rfl (by decide +kernel) ⟨Nat.le_of_ble_eq_true rfl, Nat.le_of_ble_eq_true rfl⟩) hK hP (va_recv hK hP (ci := 3) (q0 := 3) rfl (wl_atE (by decide) rfl)) rfl hl.1 rfl (Nat.le_of_ble_eq_true rfl) d_PG_mustEndAhead_18 ⟨Nat.zero_le _, Nat.zero_le _⟩ ?_
    refine z_ifb_eq hx hb (tgt := 43) d_PG_mustEndAhead_21 (by decide) (fun c_21 => ?_) (fun c_21 => ?_)
    · refine z_iconst hx hb (z := 0) d_PG_mustEndAhead_43 ?_
      exact W.zret (v := iI (0)) hx hb hr (by first | rfl | decide) (fun t ht hW => ⟨_, rfl, by first | (rw [bz_t (by first | exact Or.inl c_10 | exact Or.inr ⟨c_21, c_36⟩)]; done) | (rw [bz_f (by rintro (h | ⟨h1, h2⟩) <;> first | exact c_10 h | exact c_21 h1 | exact c_36 h2)]; done), ht⟩) (fun q h => by cases h) d_PG_mustEndAhead_44
    · refine lv_aload_n hx hb d_PG_mustEndAhead_24 rfl (lv_at hl 0 rfl) ?_
      refine lv_iload_n hx hb d_PG_mustEndAhead_25 rfl (lv_at hl 1 rfl) ?_
      refine ro_Vr (As := [.int (iI (((w : Nat) : Int)))]) (rest := []) (x := (ad (29 + 4 * q2))) ⟨hx, hb, hml, hown, hg⟩ (c_paragraphOf l (w) q2 (by omega) hq2 h13q2) (cwV 1 hg (gt_V (List.mem_append_right _ (List.mem_append_right _ (List.mem_append_right _ (List.mem_append_right _ (List.mem_append_right _ (List.mem_append_right _ (List.mem_append_right _ (List.mem_append_right _ (List.mem_append_left _ (List.mem_of_getElem? (i := 13) rfl)))))))))) (List.mem_append_right _ (List.mem_append_right _ (List.mem_append_right _ (List.mem_append_right _ (List.mem_append_right _ (List.mem_append_right _ (List.mem_append_right _ (List.mem_append_right _ (List.mem_append_left _ (List.mem_of_getElem? (i := 14) rfl)))))))))) (List.mem_append_left _ (List.mem_of_getElem? (i := 16) rfl)) (List.mem_append_right _ (List.mem_append_left _ (List.mem_of_getElem? (i := 8) rfl))) (List.mem_append_right _ (List.mem_append_right _ (List.mem_append_right _ (List.mem_append_right _ (List.mem_append_right _ (List.mem_append_right _ (List.mem_append_right _ (List.mem_append_right _ (List.mem_append_left _ (List.mem_of_getElem? (i := 15) rfl))))))))))) rfl rfl rfl (by decide +kernel) ⟨Nat.le_of_ble_eq_true rfl, Nat.le_of_ble_eq_true rfl⟩) hK hP (va_recv hK hP (ci := 5) (q0 := 5) rfl (wl_atE (by decide) rfl)) rfl hl.1 rfl (Nat.le_of_ble_eq_true rfl) d_PG_mustEndAhead_26 ⟨Nat.zero_le _, Nat.zero_le _⟩ ?_
      refine z_get (ci := 6) (C := R_PA) (T := T_PA) (N := 6) (v := .ref (ad (30 + 4 * q2))) hx hb hg in_PA hown hK hP (29 + 4 * q2) (by omega) (pg_par _ _ _ _ _) rfl 0 (by decide) (hg _ (List.mem_append_right _ (List.mem_append_right _ (List.mem_append_left _ (List.mem_of_getElem? (i := 0) rfl))))) (fun _ h9 => h9) rfl d_PG_mustEndAhead_29 ?_
      refine z_bipush hx hb (z := 9) d_PG_mustEndAhead_32 (by decide) ?_
      refine z_iald hx hb hK hP (30 + 4 * q2) 0 (by omega) (fun r => pg_shp _ _ _ _ r) rfl (9) rfl (by decide) (by decide) d_PG_mustEndAhead_34 ?_
      refine z_iconst hx hb (z := 1) d_PG_mustEndAhead_35 ?_
      refine z_icmp_ne hx hb (tgt := 43) d_PG_mustEndAhead_36 (by decide) (hsh _) ⟨by decide, by decide⟩ (fun c_36 => ?_) (fun c_36 => ?_)
      · refine z_iconst hx hb (z := 0) d_PG_mustEndAhead_43 ?_
        exact W.zret (v := iI (0)) hx hb hr (by first | rfl | decide) (fun t ht hW => ⟨_, rfl, by first | (rw [bz_t (by first | exact Or.inl c_10 | exact Or.inr ⟨c_21, c_36⟩)]; done) | (rw [bz_f (by rintro (h | ⟨h1, h2⟩) <;> first | exact c_10 h | exact c_21 h1 | exact c_36 h2)]; done), ht⟩) (fun q h => by cases h) d_PG_mustEndAhead_44
      · refine z_iconst hx hb (z := 1) d_PG_mustEndAhead_39 ?_
        refine lv_goto (tgt := 44) hx hb d_PG_mustEndAhead_40 (by decide) ?_
        exact W.zret (v := iI (1)) hx hb hr (by first | rfl | decide) (fun t ht hW => ⟨_, rfl, by first | (rw [bz_t (by first | exact Or.inl c_10 | exact Or.inr ⟨c_21, c_36⟩)]; done) | (rw [bz_f (by rintro (h | ⟨h1, h2⟩) <;> first | exact c_10 h | exact c_21 h1 | exact c_36 h2)]; done), ht⟩) (fun q h => by cases h) d_PG_mustEndAhead_44
set_option maxHeartbeats 4000000 in
set_option maxRecDepth 100000 in
/-- Pages.mayEndAhead -/
theorem c_mayEndAhead (l : Launch) {D : va_G} {ad : Nat → Nat} {cs : pg_C} {rp : Option Nat} {M : Nat → Nat → Int} (w q1 nl : Nat) (hw1 : 1 ≤ w) (hw : w < 630) (hq1 : q1 < 30) (h13q1 : M 13 (w - 1) = ((q1 : Nat) : Int)) (hl6 : nl ≤ 630) (hn : M 3 2 = ((nl : Nat) : Int)) (hz : ∀ j, zb (M 13 j)) (hsh : ∀ j, zb (M (30 + 4 * q1) j)) : Met l y_PG_mayEndAhead ws_PG_mayEndAhead ({ frames := 1, cells := 0, slots := 0, locals := 21 } : Room) (va_Pc [.ref (ad (5)), .int (iI (((w : Nat) : Int)))] (ro_B D vwCl (pg_tys cs) (pg_w ad cs rp M))) (vp_Si (fun r => r = iI (bz (p_may (M 13) (M (30 + 4 * q1)) nl w) inferInstance))) 0 0 (fun _ => False) := by
  refine Met.ofW (cc := b_PG_mayEndAhead) (maxL := 4) (ret := (some .boolean)) (by decide) rfl ?_
  intro p e s m args below meth c s₁ B hml hv
  obtain ⟨rfl, hP, hK⟩ := hv
  have hx := B.exec
  have hb := B.bytes
  have hr := B.returns
  have hts := atoms_spec (ws := ws_PG_mayEndAhead) B.pre
  have hg : ∀ w ∈ gt, w.before _ s = true := fun w h => hts w (List.mem_cons_of_mem _ h)
  have hown : s.vm.findClass R_PG = some m.cls := findClass_of_methodNamed B.named
  have hlocks := B.notSynchronized
  have hl := lv_entry ([.ref (ad (5)), .int (iI (((w : Nat) : Int)))]) (n := 4) (Nat.le_of_ble_eq_true rfl)
  rw [lg_entry_eq]
  generalize (lg_sl ([.ref (ad (5)), .int (iI (((w : Nat) : Int)))]) ++ List.replicate (4 - (lg_sl ([.ref (ad (5)), .int (iI (((w : Nat) : Int)))])).length) Slot.unset).toArray = ls at hl ⊢
  have hl : lv_has ls 4 [(0, .ref (ad (5))), (1, .int (iI (((w : Nat) : Int))))] := hl
  refine lv_aload_n hx hb d_PG_mayEndAhead_0 rfl (lv_at hl 0 rfl) ?_
  refine lv_iload_n hx hb d_PG_mayEndAhead_1 rfl (lv_at hl 1 rfl) ?_
  refine z_iconst hx hb (z := 1) d_PG_mayEndAhead_2 ?_
  refine z_isub hx hb d_PG_mayEndAhead_3 (v := ((w - 1 : Nat) : Int)) (by omega) ?_
  refine ro_Vr (As := [.int (iI (((w - 1 : Nat) : Int)))]) (rest := []) (x := (ad (29 + 4 * q1))) ⟨hx, hb, hml, hown, hg⟩ (c_paragraphOf l (w - 1) q1 (by omega) hq1 h13q1) (cwV 1 hg (gt_V (List.mem_append_right _ (List.mem_append_right _ (List.mem_append_right _ (List.mem_append_right _ (List.mem_append_right _ (List.mem_append_right _ (List.mem_append_right _ (List.mem_append_right _ (List.mem_append_left _ (List.mem_of_getElem? (i := 13) rfl)))))))))) (List.mem_append_right _ (List.mem_append_right _ (List.mem_append_right _ (List.mem_append_right _ (List.mem_append_right _ (List.mem_append_right _ (List.mem_append_right _ (List.mem_append_right _ (List.mem_append_left _ (List.mem_of_getElem? (i := 14) rfl)))))))))) (List.mem_append_left _ (List.mem_of_getElem? (i := 16) rfl)) (List.mem_append_right _ (List.mem_append_left _ (List.mem_of_getElem? (i := 8) rfl))) (List.mem_append_right _ (List.mem_append_right _ (List.mem_append_right _ (List.mem_append_right _ (List.mem_append_right _ (List.mem_append_right _ (List.mem_append_right _ (List.mem_append_right _ (List.mem_append_left _ (List.mem_of_getElem? (i := 15) rfl))))))))))) rfl rfl rfl (by decide +kernel) ⟨Nat.le_of_ble_eq_true rfl, Nat.le_of_ble_eq_true rfl⟩) hK hP (va_recv hK hP (ci := 5) (q0 := 5) rfl (wl_atE (by decide) rfl)) rfl hl.1 rfl (Nat.le_of_ble_eq_true rfl) d_PG_mayEndAhead_4 ⟨Nat.zero_le _, Nat.zero_le _⟩ ?_
  refine z_get (ci := 6) (C := R_PA) (T := T_PA) (N := 6) (v := .ref (ad (30 + 4 * q1))) hx hb hg in_PA hown hK hP (29 + 4 * q1) (by omega) (pg_par _ _ _ _ _) rfl 0 (by decide) (hg _ (List.mem_append_right _ (List.mem_append_right _ (List.mem_append_left _ (List.mem_of_getElem? (i := 0) rfl))))) (fun _ h9 => h9) rfl d_PG_mayEndAhead_7 ?_
  refine lv_astore_n (lv' := [(2, .ref (ad (30 + 4 * q1))), (0, .ref (ad (5))), (1, .int (iI (((w : Nat) : Int))))]) hx hb d_PG_mayEndAhead_10 rfl hl (by decide) rfl (fun ls hl => ?_)
  refine lv_aload_n hx hb d_PG_mayEndAhead_11 rfl (lv_at hl 1 rfl) ?_
  refine z_get (ci := 5) (C := R_PG) (T := T_PG) (N := 5) (v := .ref (ad (3))) hx hb hg in_PG hown hK hP (5) (by decide) rfl rfl 4 (by decide) (hg _ (List.mem_append_right _ (List.mem_append_right _ (List.mem_append_right _ (List.mem_append_right _ (List.mem_append_left _ (List.mem_of_getElem? (i := 33) rfl))))))) (fun _ h9 => h9) rfl d_PG_mayEndAhead_12 ?_
  refine lv_iload_n hx hb d_PG_mayEndAhead_15 rfl (lv_at hl 2 rfl) ?_
  refine ro_V (As := [.int (iI (((w : Nat) : Int)))]) (rest := []) (z := bz (p_first (M 13) (w)) inferInstance) ⟨hx, hb, hml, hown, hg⟩ (c_isFirst l (w) (by omega) hz) (cwV 1 hg (gt_V (List.mem_append_right _ (List.mem_append_right _ (List.mem_append_right _ (List.mem_append_right _ (List.mem_append_right _ (List.mem_append_right _ (List.mem_append_right _ (List.mem_append_right _ (List.mem_append_left _ (List.mem_of_getElem? (i := 9) rfl)))))))))) (List.mem_append_right _ (List.mem_append_right _ (List.mem_append_right _ (List.mem_append_right _ (List.mem_append_right _ (List.mem_append_right _ (List.mem_append_right _ (List.mem_append_right _ (List.mem_append_left _ (List.mem_of_getElem? (i := 10) rfl)))))))))) (List.mem_append_right _ (List.mem_append_right _ (List.mem_append_right _ (List.mem_append_right _ (List.mem_append_right _ (List.mem_append_right _ (List.mem_append_right _ (List.mem_append_right _ (List.mem_append_left _ (List.mem_of_getElem? (i := 11) rfl)))))))))) (List.mem_append_right _ (List.mem_append_left _ (List.mem_of_getElem? (i := 6) rfl))) (List.mem_append_right _ (List.mem_append_right _ (List.mem_append_right _ (List.mem_append_right _ (List.mem_append_right _ (List.mem_append_right _ (List.mem_append_right _ (List.mem_append_right _ (List.mem_append_left _ (List.mem_of_getElem? (i := 12) rfl))))))))))) rfl rfl rfl (by decide +kernel) ⟨Nat.le_of_ble_eq_true rfl, Nat.le_of_ble_eq_true rfl⟩) hK hP (va_recv hK hP (ci := 3) (q0 := 3) rfl (wl_atE (by decide) rfl)) rfl hl.1 rfl (Nat.le_of_ble_eq_true rfl) d_PG_mayEndAhead_16 ⟨Nat.zero_le _, Nat.zero_le _⟩ ?_
  refine z_ifb_eq hx hb (tgt := 35) d_PG_mayEndAhead_19 (by decide) (fun c_19 => ?_) (fun c_19 => ?_)
  · refine lv_aload_n hx hb d_PG_mayEndAhead_35 rfl (lv_at hl 1 rfl) ?_
    refine z_get (ci := 5) (C := R_PG) (T := T_PG) (N := 5) (v := .ref (ad (3))) hx hb hg in_PG hown hK hP (5) (by decide) rfl rfl 4 (by decide) (hg _ (List.mem_append_right _ (List.mem_append_right _ (List.mem_append_right _ (List.mem_append_right _ (List.mem_append_left _ (List.mem_of_getElem? (i := 33) rfl))))))) (fun _ h9 => h9) rfl d_PG_mayEndAhead_36 ?_
    refine lv_iload_n hx hb d_PG_mayEndAhead_39 rfl (lv_at hl 2 rfl) ?_
    refine z_iconst hx hb (z := 1) d_PG_mayEndAhead_40 ?_
    refine z_isub hx hb d_PG_mayEndAhead_41 (v := ((w - 1 : Nat) : Int)) (by omega) ?_
    refine ro_V (As := [.int (iI (((w - 1 : Nat) : Int)))]) (rest := []) (z := bz (p_first (M 13) (w - 1)) inferInstance) ⟨hx, hb, hml, hown, hg⟩ (c_isFirst l (w - 1) (by omega) hz) (cwV 1 hg (gt_V (List.mem_append_right _ (List.mem_append_right _ (List.mem_append_right _ (List.mem_append_right _ (List.mem_append_right _ (List.mem_append_right _ (List.mem_append_right _ (List.mem_append_right _ (List.mem_append_left _ (List.mem_of_getElem? (i := 9) rfl)))))))))) (List.mem_append_right _ (List.mem_append_right _ (List.mem_append_right _ (List.mem_append_right _ (List.mem_append_right _ (List.mem_append_right _ (List.mem_append_right _ (List.mem_append_right _ (List.mem_append_left _ (List.mem_of_getElem? (i := 10) rfl)))))))))) (List.mem_append_right _ (List.mem_append_right _ (List.mem_append_right _ (List.mem_append_right _ (List.mem_append_right _ (List.mem_append_right _ (List.mem_append_right _ (List.mem_append_right _ (List.mem_append_left _ (List.mem_of_getElem? (i := 11) rfl)))))))))) (List.mem_append_right _ (List.mem_append_left _ (List.mem_of_getElem? (i := 6) rfl))) (List.mem_append_right _ (List.mem_append_right _ (List.mem_append_right _ (List.mem_append_right _ (List.mem_append_right _ (List.mem_append_right _ (List.mem_append_right _ (List.mem_append_right _ (List.mem_append_left _ (List.mem_of_getElem? (i := 12) rfl))))))))))) rfl rfl rfl (by decide +kernel) ⟨Nat.le_of_ble_eq_true rfl, Nat.le_of_ble_eq_true rfl⟩) hK hP (va_recv hK hP (ci := 3) (q0 := 3) rfl (wl_atE (by decide) rfl)) rfl hl.1 rfl (Nat.le_of_ble_eq_true rfl) d_PG_mayEndAhead_42 ⟨Nat.zero_le _, Nat.zero_le _⟩ ?_
    refine z_ifb_ne hx hb (tgt := 59) d_PG_mayEndAhead_45 (by decide) (fun c_45 => ?_) (fun c_45 => ?_)
    · refine z_iconst hx hb (z := 1) d_PG_mayEndAhead_59 ?_
      refine lv_goto (tgt := 64) hx hb d_PG_mayEndAhead_60 (by decide) ?_
      refine lv_istore_n (lv' := [(3, .int (iI (1))), (2, .ref (ad (30 + 4 * q1))), (0, .ref (ad (5))), (1, .int (iI (((w : Nat) : Int))))]) hx hb d_PG_mayEndAhead_64 rfl hl (by decide) rfl (fun ls hl => ?_)
      refine lv_aload_n hx hb d_PG_mayEndAhead_65 rfl (lv_at hl 1 rfl) ?_
      refine z_bipush hx hb (z := 7) d_PG_mayEndAhead_66 (by decide) ?_
      refine z_iald hx hb hK hP (30 + 4 * q1) 0 (by omega) (fun r => pg_shp _ _ _ _ r) rfl (7) rfl (by decide) (by decide) d_PG_mayEndAhead_68 ?_
      refine z_if_ne hx hb (tgt := 87) d_PG_mayEndAhead_69 (by decide) (hsh _) (fun c_69 => ?_) (fun c_69 => ?_)
      · refine z_iconst hx hb (z := 0) d_PG_mayEndAhead_87 ?_
        exact W.zret (v := iI (0)) hx hb hr (by first | rfl | decide) (fun t ht hW => ⟨_, rfl, by first | (rw [bz_t (by omega)]; done) | (rw [bz_f (by omega)]; done), ht⟩) (fun q h => by cases h) d_PG_mayEndAhead_88
      · refine lv_aload_n hx hb d_PG_mayEndAhead_72 rfl (lv_at hl 1 rfl) ?_
        refine z_bipush hx hb (z := 8) d_PG_mayEndAhead_73 (by decide) ?_
        refine z_iald hx hb hK hP (30 + 4 * q1) 0 (by omega) (fun r => pg_shp _ _ _ _ r) rfl (8) rfl (by decide) (by decide) d_PG_mayEndAhead_75 ?_
        refine z_if_eq hx hb (tgt := 83) d_PG_mayEndAhead_76 (by decide) (hsh _) (fun c_76 => ?_) (fun c_76 => ?_)
        · refine z_iconst hx hb (z := 1) d_PG_mayEndAhead_83 ?_
          refine lv_goto (tgt := 88) hx hb d_PG_mayEndAhead_84 (by decide) ?_
          exact W.zret (v := iI (1)) hx hb hr (by first | rfl | decide) (fun t ht hW => ⟨_, rfl, by first | (rw [bz_t (by omega)]; done) | (rw [bz_f (by omega)]; done), ht⟩) (fun q h => by cases h) d_PG_mayEndAhead_88
        · refine lv_iload_n hx hb d_PG_mayEndAhead_79 rfl (lv_at hl 0 rfl) ?_
          refine z_if_ne hx hb (tgt := 87) d_PG_mayEndAhead_80 (by decide) ⟨by decide, by decide⟩ (fun c_80 => ?_) (fun c_80 => ?_)
          · refine z_iconst hx hb (z := 0) d_PG_mayEndAhead_87 ?_
            exact W.zret (v := iI (0)) hx hb hr (by first | rfl | decide) (fun t ht hW => ⟨_, rfl, by first | (rw [bz_t (by omega)]; done) | (rw [bz_f (by omega)]; done), ht⟩) (fun q h => by cases h) d_PG_mayEndAhead_88
          · refine z_iconst hx hb (z := 1) d_PG_mayEndAhead_83 ?_
            refine lv_goto (tgt := 88) hx hb d_PG_mayEndAhead_84 (by decide) ?_
            exact W.zret (v := iI (1)) hx hb hr (by first | rfl | decide) (fun t ht hW => ⟨_, rfl, by first | (rw [bz_t (by omega)]; done) | (rw [bz_f (by omega)]; done), ht⟩) (fun q h => by cases h) d_PG_mayEndAhead_88
    · refine lv_aload_n hx hb d_PG_mayEndAhead_48 rfl (lv_at hl 1 rfl) ?_
      refine z_get (ci := 5) (C := R_PG) (T := T_PG) (N := 5) (v := .ref (ad (3))) hx hb hg in_PG hown hK hP (5) (by decide) rfl rfl 4 (by decide) (hg _ (List.mem_append_right _ (List.mem_append_right _ (List.mem_append_right _ (List.mem_append_right _ (List.mem_append_left _ (List.mem_of_getElem? (i := 33) rfl))))))) (fun _ h9 => h9) rfl d_PG_mayEndAhead_49 ?_
      refine lv_iload_n hx hb d_PG_mayEndAhead_52 rfl (lv_at hl 2 rfl) ?_
      refine ro_V (As := [.int (iI (((w : Nat) : Int)))]) (rest := []) (z := bz (p_lastl (M 13) nl w) inferInstance) ⟨hx, hb, hml, hown, hg⟩ (c_isLast l w nl (by omega) hl6 hn hz) (cwV 1 hg (gt_V (List.mem_append_right _ (List.mem_append_right _ (List.mem_append_right _ (List.mem_append_right _ (List.mem_append_right _ (List.mem_append_right _ (List.mem_append_right _ (List.mem_append_right _ (List.mem_append_left _ (List.mem_of_getElem? (i := 25) rfl)))))))))) (List.mem_append_right _ (List.mem_append_right _ (List.mem_append_right _ (List.mem_append_right _ (List.mem_append_right _ (List.mem_append_right _ (List.mem_append_right _ (List.mem_append_right _ (List.mem_append_left _ (List.mem_of_getElem? (i := 26) rfl)))))))))) (List.mem_append_right _ (List.mem_append_right _ (List.mem_append_right _ (List.mem_append_right _ (List.mem_append_right _ (List.mem_append_right _ (List.mem_append_right _ (List.mem_append_right _ (List.mem_append_left _ (List.mem_of_getElem? (i := 27) rfl)))))))))) (List.mem_append_right _ (List.mem_append_left _ (List.mem_of_getElem? (i := 6) rfl))) (List.mem_append_right _ (List.mem_append_right _ (List.mem_append_right _ (List.mem_append_right _ (List.mem_append_right _ (List.mem_append_right _ (List.mem_append_right _ (List.mem_append_right _ (List.mem_append_left _ (List.mem_of_getElem? (i := 28) rfl))))))))))) rfl rfl rfl (by decide +kernel) ⟨Nat.le_of_ble_eq_true rfl, Nat.le_of_ble_eq_true rfl⟩) hK hP (va_recv hK hP (ci := 3) (q0 := 3) rfl (wl_atE (by decide) rfl)) rfl hl.1 rfl (Nat.le_of_ble_eq_true rfl) d_PG_mayEndAhead_53 ⟨Nat.zero_le _, Nat.zero_le _⟩ ?_
      refine z_ifb_eq hx hb (tgt := 63) d_PG_mayEndAhead_56 (by decide) (fun c_56 => ?_) (fun c_56 => ?_)
      · refine z_iconst hx hb (z := 0) d_PG_mayEndAhead_63 ?_
        refine lv_istore_n (lv' := [(3, .int (iI (0))), (2, .ref (ad (30 + 4 * q1))), (0, .ref (ad (5))), (1, .int (iI (((w : Nat) : Int))))]) hx hb d_PG_mayEndAhead_64 rfl hl (by decide) rfl (fun ls hl => ?_)
        refine lv_aload_n hx hb d_PG_mayEndAhead_65 rfl (lv_at hl 1 rfl) ?_
        refine z_bipush hx hb (z := 7) d_PG_mayEndAhead_66 (by decide) ?_
        refine z_iald hx hb hK hP (30 + 4 * q1) 0 (by omega) (fun r => pg_shp _ _ _ _ r) rfl (7) rfl (by decide) (by decide) d_PG_mayEndAhead_68 ?_
        refine z_if_ne hx hb (tgt := 87) d_PG_mayEndAhead_69 (by decide) (hsh _) (fun c_69 => ?_) (fun c_69 => ?_)
        · refine z_iconst hx hb (z := 0) d_PG_mayEndAhead_87 ?_
          exact W.zret (v := iI (0)) hx hb hr (by first | rfl | decide) (fun t ht hW => ⟨_, rfl, by first | (rw [bz_t (by omega)]; done) | (rw [bz_f (by omega)]; done), ht⟩) (fun q h => by cases h) d_PG_mayEndAhead_88
        · refine lv_aload_n hx hb d_PG_mayEndAhead_72 rfl (lv_at hl 1 rfl) ?_
          refine z_bipush hx hb (z := 8) d_PG_mayEndAhead_73 (by decide) ?_
          refine z_iald hx hb hK hP (30 + 4 * q1) 0 (by omega) (fun r => pg_shp _ _ _ _ r) rfl (8) rfl (by decide) (by decide) d_PG_mayEndAhead_75 ?_
          refine z_if_eq hx hb (tgt := 83) d_PG_mayEndAhead_76 (by decide) (hsh _) (fun c_76 => ?_) (fun c_76 => ?_)
          · refine z_iconst hx hb (z := 1) d_PG_mayEndAhead_83 ?_
            refine lv_goto (tgt := 88) hx hb d_PG_mayEndAhead_84 (by decide) ?_
            exact W.zret (v := iI (1)) hx hb hr (by first | rfl | decide) (fun t ht hW => ⟨_, rfl, by first | (rw [bz_t (by omega)]; done) | (rw [bz_f (by omega)]; done), ht⟩) (fun q h => by cases h) d_PG_mayEndAhead_88
          · refine lv_iload_n hx hb d_PG_mayEndAhead_79 rfl (lv_at hl 0 rfl) ?_
            refine z_if_ne hx hb (tgt := 87) d_PG_mayEndAhead_80 (by decide) ⟨by decide, by decide⟩ (fun c_80 => ?_) (fun c_80 => ?_)
            · refine z_iconst hx hb (z := 0) d_PG_mayEndAhead_87 ?_
              exact W.zret (v := iI (0)) hx hb hr (by first | rfl | decide) (fun t ht hW => ⟨_, rfl, by first | (rw [bz_t (by omega)]; done) | (rw [bz_f (by omega)]; done), ht⟩) (fun q h => by cases h) d_PG_mayEndAhead_88
            · refine z_iconst hx hb (z := 1) d_PG_mayEndAhead_83 ?_
              refine lv_goto (tgt := 88) hx hb d_PG_mayEndAhead_84 (by decide) ?_
              exact W.zret (v := iI (1)) hx hb hr (by first | rfl | decide) (fun t ht hW => ⟨_, rfl, by first | (rw [bz_t (by omega)]; done) | (rw [bz_f (by omega)]; done), ht⟩) (fun q h => by cases h) d_PG_mayEndAhead_88
      · refine z_iconst hx hb (z := 1) d_PG_mayEndAhead_59 ?_
        refine lv_goto (tgt := 64) hx hb d_PG_mayEndAhead_60 (by decide) ?_
        refine lv_istore_n (lv' := [(3, .int (iI (1))), (2, .ref (ad (30 + 4 * q1))), (0, .ref (ad (5))), (1, .int (iI (((w : Nat) : Int))))]) hx hb d_PG_mayEndAhead_64 rfl hl (by decide) rfl (fun ls hl => ?_)
        refine lv_aload_n hx hb d_PG_mayEndAhead_65 rfl (lv_at hl 1 rfl) ?_
        refine z_bipush hx hb (z := 7) d_PG_mayEndAhead_66 (by decide) ?_
        refine z_iald hx hb hK hP (30 + 4 * q1) 0 (by omega) (fun r => pg_shp _ _ _ _ r) rfl (7) rfl (by decide) (by decide) d_PG_mayEndAhead_68 ?_
        refine z_if_ne hx hb (tgt := 87) d_PG_mayEndAhead_69 (by decide) (hsh _) (fun c_69 => ?_) (fun c_69 => ?_)
        · refine z_iconst hx hb (z := 0) d_PG_mayEndAhead_87 ?_
          exact W.zret (v := iI (0)) hx hb hr (by first | rfl | decide) (fun t ht hW => ⟨_, rfl, by first | (rw [bz_t (by omega)]; done) | (rw [bz_f (by omega)]; done), ht⟩) (fun q h => by cases h) d_PG_mayEndAhead_88
        · refine lv_aload_n hx hb d_PG_mayEndAhead_72 rfl (lv_at hl 1 rfl) ?_
          refine z_bipush hx hb (z := 8) d_PG_mayEndAhead_73 (by decide) ?_
          refine z_iald hx hb hK hP (30 + 4 * q1) 0 (by omega) (fun r => pg_shp _ _ _ _ r) rfl (8) rfl (by decide) (by decide) d_PG_mayEndAhead_75 ?_
          refine z_if_eq hx hb (tgt := 83) d_PG_mayEndAhead_76 (by decide) (hsh _) (fun c_76 => ?_) (fun c_76 => ?_)
          · refine z_iconst hx hb (z := 1) d_PG_mayEndAhead_83 ?_
            refine lv_goto (tgt := 88) hx hb d_PG_mayEndAhead_84 (by decide) ?_
            exact W.zret (v := iI (1)) hx hb hr (by first | rfl | decide) (fun t ht hW => ⟨_, rfl, by first | (rw [bz_t (by omega)]; done) | (rw [bz_f (by omega)]; done), ht⟩) (fun q h => by cases h) d_PG_mayEndAhead_88
          · refine lv_iload_n hx hb d_PG_mayEndAhead_79 rfl (lv_at hl 0 rfl) ?_
            refine z_if_ne hx hb (tgt := 87) d_PG_mayEndAhead_80 (by decide) ⟨by decide, by decide⟩ (fun c_80 => ?_) (fun c_80 => ?_)
            · refine z_iconst hx hb (z := 0) d_PG_mayEndAhead_87 ?_
              exact W.zret (v := iI (0)) hx hb hr (by first | rfl | decide) (fun t ht hW => ⟨_, rfl, by first | (rw [bz_t (by omega)]; done) | (rw [bz_f (by omega)]; done), ht⟩) (fun q h => by cases h) d_PG_mayEndAhead_88
            · refine z_iconst hx hb (z := 1) d_PG_mayEndAhead_83 ?_
              refine lv_goto (tgt := 88) hx hb d_PG_mayEndAhead_84 (by decide) ?_
              exact W.zret (v := iI (1)) hx hb hr (by first | rfl | decide) (fun t ht hW => ⟨_, rfl, by first | (rw [bz_t (by omega)]; done) | (rw [bz_f (by omega)]; done), ht⟩) (fun q h => by cases h) d_PG_mayEndAhead_88
  · refine lv_aload_n hx hb d_PG_mayEndAhead_22 rfl (lv_at hl 0 rfl) ?_
    refine z_bipush hx hb (z := 6) d_PG_mayEndAhead_23 (by decide) ?_
    refine z_iald hx hb hK hP (30 + 4 * q1) 0 (by omega) (fun r => pg_shp _ _ _ _ r) rfl (6) rfl (by decide) (by decide) d_PG_mayEndAhead_25 ?_
    refine z_if_ne hx hb (tgt := 33) d_PG_mayEndAhead_26 (by decide) (hsh _) (fun c_26 => ?_) (fun c_26 => ?_)
    · refine z_iconst hx hb (z := 0) d_PG_mayEndAhead_33 ?_
      exact W.zret (v := iI (0)) hx hb hr (by first | rfl | decide) (fun t ht hW => ⟨_, rfl, by first | (rw [bz_t (by omega)]; done) | (rw [bz_f (by omega)]; done), ht⟩) (fun q h => by cases h) d_PG_mayEndAhead_34
    · refine z_iconst hx hb (z := 1) d_PG_mayEndAhead_29 ?_
      refine lv_goto (tgt := 34) hx hb d_PG_mayEndAhead_30 (by decide) ?_
      exact W.zret (v := iI (1)) hx hb hr (by first | rfl | decide) (fun t ht hW => ⟨_, rfl, by first | (rw [bz_t (by omega)]; done) | (rw [bz_f (by omega)]; done), ht⟩) (fun q h => by cases h) d_PG_mayEndAhead_34
set_option maxHeartbeats 4000000 in
set_option maxRecDepth 100000 in
theorem lp_lineAt {p : Program} {l : Launch} {e : Env} {s : State} {m : MethodId} {args : Array Value} {below : List Frame} {meth : Method} {c : Code} {H : Heap} {locs : List Loc} {Q : State → Prop} {D : va_G} {ad : Nat → Nat} {cs : pg_C} {rp : Option Nat} {M : Nat → Nat → Int} (hx : p.tables.exec = Jvm.exec) (hb : c.code = b_PG_lineAt) (hml : c.maxLocals = 5) (hg : ∀ w ∈ gt, w.before args s = true) (hown : s.vm.findClass R_PG = some m.cls) (hK : va_K D vwCl (pg_tys cs) s) (hP : va_P D vwCl (pg_w ad cs rp M) H) (g a k t : Nat) (y : Int) (hyb : zb y) (ha : M 26 g = ((a : Nat) : Int)) (ha6 : a ≤ 630) (hz : ∀ j, zb (M 20 j)) (kk : ∀ ls : Array Slot, lv_has ls 5 [(4, .int (iI ((t : Nat) : Int)))] → W p l e ({ frames := 0, cells := 0, slots := 0, locals := 0 } : Room) s m args below meth c H locs 0 0 Q (F0 m 52 ls [])) : ∀ (f : Nat) (ls : Array Slot), f < 630 → p_lat (M 20) y a f = t → lv_has ls 5 [(4, .int (iI (((f : Nat) : Int)))), (3, .int (iI (M 26 g))), (0, .ref (ad (5))), (1, .int (iI (((g : Nat) : Int)))), (2, .int (iI (y)))] → W p l e ({ frames := 0, cells := 0, slots := 0, locals := 0 } : Room) s m args below meth c H locs 0 0 Q (F0 m 23 ls []) := by
  intro f
  induction f with
  | zero =>
    intro ls hf he hl
    refine lv_iload hx hb d_PG_lineAt_23 (lv_at hl 0 rfl) ?_
    refine lv_iload_n hx hb d_PG_lineAt_25 rfl (lv_at hl 1 rfl) ?_
    refine z_icmp_le hx hb (tgt := 52) d_PG_lineAt_26 (by decide) ⟨by omega, by omega⟩ ⟨by omega, by omega⟩ (fun c_26 => ?_) (fun c_26 => ?_)
    · have he : 0 = t := he
      subst he
      exact kk ls (lv_sub hl [0] rfl)
    · exact absurd c_26 (by omega)
  | succ f ih =>
    intro ls hf he hl
    refine lv_iload hx hb d_PG_lineAt_23 (lv_at hl 0 rfl) ?_
    refine lv_iload_n hx hb d_PG_lineAt_25 rfl (lv_at hl 1 rfl) ?_
    refine z_icmp_le hx hb (tgt := 52) d_PG_lineAt_26 (by decide) ⟨by omega, by omega⟩ ⟨by omega, by omega⟩ (fun c_26 => ?_) (fun c_26 => ?_)
    · have he : f + 1 = t := by rw [← he]; unfold p_lat; rw [if_neg (by omega)]
      subst he
      exact kk ls (lv_sub hl [0] rfl)
    · refine lv_aload_n hx hb d_PG_lineAt_29 rfl (lv_at hl 2 rfl) ?_
      refine z_get (ci := 5) (C := R_PG) (T := T_PG) (N := 5) (v := .ref (ad (3))) hx hb hg in_PG hown hK hP (5) (by decide) rfl rfl 4 (by decide) (hg _ (List.mem_append_right _ (List.mem_append_right _ (List.mem_append_right _ (List.mem_append_right _ (List.mem_append_left _ (List.mem_of_getElem? (i := 33) rfl))))))) (fun _ h9 => h9) rfl d_PG_lineAt_30 ?_
      refine z_get (ci := 3) (C := R_LN) (T := T_LN) (N := 6) (v := .ref (ad (10))) hx hb hg in_LN hown hK hP (3) (by decide) rfl rfl 0 (by decide) (hg _ (List.mem_append_right _ (List.mem_append_right _ (List.mem_append_right _ (List.mem_append_right _ (List.mem_append_left _ (List.mem_of_getElem? (i := 4) rfl))))))) (fun _ h9 => h9) rfl d_PG_lineAt_33 ?_
      refine z_bipush hx hb (z := 7) d_PG_lineAt_36 (by decide) ?_
      refine z_aald hx hb hK hP (10) 1 (by decide) (fun _ => rfl) rfl rfl (7) rfl (by decide) (by decide) d_PG_lineAt_38 ?_
      refine lv_iload hx hb d_PG_lineAt_39 (lv_at hl 0 rfl) ?_
      refine z_iald hx hb hK hP (20) 0 (by decide) (fun _ => rfl) rfl (f + 1) rfl (by omega) (by decide) d_PG_lineAt_41 ?_
      refine lv_iload_n hx hb d_PG_lineAt_42 rfl (lv_at hl 4 rfl) ?_
      refine z_icmp_le hx hb (tgt := 52) d_PG_lineAt_43 (by decide) (hz _) hyb (fun c_43 => ?_) (fun c_43 => ?_)
      · have he : f + 1 = t := by rw [← he]; unfold p_lat; rw [if_neg (by omega)]
        subst he
        exact kk ls (lv_sub hl [0] rfl)
      · refine z_iinc (v := ((f : Nat) : Int)) (lv' := [(4, .int (iI (((f : Nat) : Int)))), (3, .int (iI (M 26 g))), (0, .ref (ad (5))), (1, .int (iI (((g : Nat) : Int)))), (2, .int (iI (y)))]) hx hb d_PG_lineAt_46 hl (k := 0) rfl (by omega) (by decide) rfl (fun ls hl => ?_)
        refine lv_goto (tgt := 23) hx hb d_PG_lineAt_49 (by decide) ?_
        exact ih ls (by omega) (by rw [← he]; conv => rhs; unfold p_lat; rw [if_pos ⟨by omega, by omega⟩]) hl
set_option maxHeartbeats 4000000 in
set_option maxRecDepth 100000 in
/-- Pages.lineAt -/
theorem c_lineAt (l : Launch) {D : va_G} {ad : Nat → Nat} {cs : pg_C} {rp : Option Nat} {M : Nat → Nat → Int} (g a k : Nat) (y : Int) (hg6 : g < 630) (hyb : zb y) (ha : M 26 g = ((a : Nat) : Int)) (hk : M 27 g = ((k : Nat) : Int)) (hk1 : 1 ≤ k) (hak : a + k ≤ 630) (hz : ∀ j, zb (M 20 j)) : Met l y_PG_lineAt ws_PG_lineAt ({ frames := 0, cells := 0, slots := 0, locals := 0 } : Room) (va_Pc [.ref (ad (5)), .int (iI (((g : Nat) : Int))), .int (iI (y))] (ro_B D vwCl (pg_tys cs) (pg_w ad cs rp M))) (vp_Si (fun r => r = iI (((p_lat (M 20) y a (a + k - 1) : Nat) : Int)))) 0 0 (fun _ => False) := by
  refine Met.ofW (cc := b_PG_lineAt) (maxL := 5) (ret := (some .int)) (by decide) rfl ?_
  intro p e s m args below meth c s₁ B hml hv
  obtain ⟨rfl, hP, hK⟩ := hv
  have hx := B.exec
  have hb := B.bytes
  have hr := B.returns
  have hts := atoms_spec (ws := ws_PG_lineAt) B.pre
  have hg : ∀ w ∈ gt, w.before _ s = true := fun w h => hts w (List.mem_cons_of_mem _ h)
  have hown : s.vm.findClass R_PG = some m.cls := findClass_of_methodNamed B.named
  have hlocks := B.notSynchronized
  have hl := lv_entry ([.ref (ad (5)), .int (iI (((g : Nat) : Int))), .int (iI (y))]) (n := 5) (Nat.le_of_ble_eq_true rfl)
  rw [lg_entry_eq]
  generalize (lg_sl ([.ref (ad (5)), .int (iI (((g : Nat) : Int))), .int (iI (y))]) ++ List.replicate (5 - (lg_sl ([.ref (ad (5)), .int (iI (((g : Nat) : Int))), .int (iI (y))])).length) Slot.unset).toArray = ls at hl ⊢
  have hl : lv_has ls 5 [(0, .ref (ad (5))), (1, .int (iI (((g : Nat) : Int)))), (2, .int (iI (y)))] := hl
  refine lv_aload_n hx hb d_PG_lineAt_0 rfl (lv_at hl 0 rfl) ?_
  refine z_get (ci := 5) (C := R_PG) (T := T_PG) (N := 5) (v := .ref (ad (12))) hx hb hg in_PG hown hK hP (5) (by decide) rfl rfl 0 (by decide) (hg _ (List.mem_append_right _ (List.mem_append_right _ (List.mem_append_right _ (List.mem_append_right _ (List.mem_append_left _ (List.mem_of_getElem? (i := 27) rfl))))))) (fun _ h9 => h9) rfl d_PG_lineAt_1 ?_
  refine z_iconst hx hb (z := 0) d_PG_lineAt_4 ?_
  refine z_aald hx hb hK hP (12) 1 (by decide) (fun _ => rfl) rfl rfl (0) rfl (by decide) (by decide) d_PG_lineAt_5 ?_
  refine lv_iload_n hx hb d_PG_lineAt_6 rfl (lv_at hl 1 rfl) ?_
  refine z_iald hx hb hK hP (26) 0 (by decide) (fun _ => rfl) rfl (g) rfl (by omega) (by decide) d_PG_lineAt_7 ?_
  refine lv_istore_n (lv' := [(3, .int (iI (M (26) (g)))), (0, .ref (ad (5))), (1, .int (iI (((g : Nat) : Int)))), (2, .int (iI (y)))]) hx hb d_PG_lineAt_8 rfl hl (by decide) rfl (fun ls hl => ?_)
  refine lv_iload_n hx hb d_PG_lineAt_9 rfl (lv_at hl 0 rfl) ?_
  refine lv_aload_n hx hb d_PG_lineAt_10 rfl (lv_at hl 1 rfl) ?_
  refine z_get (ci := 5) (C := R_PG) (T := T_PG) (N := 5) (v := .ref (ad (12))) hx hb hg in_PG hown hK hP (5) (by decide) rfl rfl 0 (by decide) (hg _ (List.mem_append_right _ (List.mem_append_right _ (List.mem_append_right _ (List.mem_append_right _ (List.mem_append_left _ (List.mem_of_getElem? (i := 27) rfl))))))) (fun _ h9 => h9) rfl d_PG_lineAt_11 ?_
  refine z_iconst hx hb (z := 1) d_PG_lineAt_14 ?_
  refine z_aald hx hb hK hP (12) 1 (by decide) (fun _ => rfl) rfl rfl (1) rfl (by decide) (by decide) d_PG_lineAt_15 ?_
  refine lv_iload_n hx hb d_PG_lineAt_16 rfl (lv_at hl 2 rfl) ?_
  refine z_iald hx hb hK hP (27) 0 (by decide) (fun _ => rfl) rfl (g) rfl (by omega) (by decide) d_PG_lineAt_17 ?_
  refine z_iadd hx hb d_PG_lineAt_18 (v := (M (26) (g) + M (27) (g))) rfl ?_
  refine z_iconst hx hb (z := 1) d_PG_lineAt_19 ?_
  refine z_isub hx hb d_PG_lineAt_20 (v := ((a + k - 1 : Nat) : Int)) (by omega) ?_
  refine lv_istore (lv' := [(4, .int (iI (((a + k - 1 : Nat) : Int)))), (3, .int (iI (M (26) (g)))), (0, .ref (ad (5))), (1, .int (iI (((g : Nat) : Int)))), (2, .int (iI (y)))]) hx hb d_PG_lineAt_21 hl (by decide) rfl (fun ls hl => ?_)
  refine lp_lineAt hx hb hml hg hown hK hP g a k _ y hyb ha (by omega) hz (fun ls hl => ?_) (a + k - 1) ls (by omega) rfl hl
  refine lv_iload hx hb d_PG_lineAt_52 (lv_at hl 0 rfl) ?_
  exact W.iret (v := iI (((p_lat (M 20) y a (a + k - 1) : Nat) : Int))) hx hb hr (fun t ht hW => ⟨_, rfl, rfl, ht⟩) (fun q h => by cases h) d_PG_lineAt_54
set_option maxHeartbeats 4000000 in
set_option maxRecDepth 100000 in
/-- PageLayout.isOutside -/
theorem c_isOutside (l : Launch) {D : va_G} {ad : Nat → Nat} {cs : pg_C} {rp : Option Nat} {M : Nat → Nat → Int} (v lo hi : Int) (h1 : zb v) (h2 : zb lo) (h3 : zb hi) : Met l y_PL_isOutside ws_PL_isOutside ({ frames := 0, cells := 0, slots := 0, locals := 0 } : Room) (va_Pc [.int (iI (v)), .int (iI (lo)), .int (iI (hi))] (ro_B D vwCl (pg_tys cs) (pg_w ad cs rp M))) (vp_Si (fun r => r = iI (bz (v < lo ∨ hi < v) inferInstance))) 0 0 (fun _ => False) := by
  refine Met.ofW (cc := b_PL_isOutside) (maxL := 3) (ret := (some .boolean)) (by decide) rfl ?_
  intro p e s m args below meth c s₁ B hml hv
  obtain ⟨rfl, hP, hK⟩ := hv
  have hx := B.exec
  have hb := B.bytes
  have hr := B.returns
  have hts := atoms_spec (ws := ws_PL_isOutside) B.pre
  have hg : ∀ w ∈ gt, w.before _ s = true := fun w h => hts w (List.mem_cons_of_mem _ h)
  have hown : s.vm.findClass R_PL = some m.cls := findClass_of_methodNamed B.named
  have hlocks := B.notSynchronized
  have hl := lv_entry ([.int (iI (v)), .int (iI (lo)), .int (iI (hi))]) (n := 3) (Nat.le_of_ble_eq_true rfl)
  rw [lg_entry_eq]
  generalize (lg_sl ([.int (iI (v)), .int (iI (lo)), .int (iI (hi))]) ++ List.replicate (3 - (lg_sl ([.int (iI (v)), .int (iI (lo)), .int (iI (hi))])).length) Slot.unset).toArray = ls at hl ⊢
  have hl : lv_has ls 3 [(0, .int (iI (v))), (1, .int (iI (lo))), (2, .int (iI (hi)))] := hl
  refine lv_iload_n hx hb d_PL_isOutside_0 rfl (lv_at hl 0 rfl) ?_
  refine lv_iload_n hx hb d_PL_isOutside_1 rfl (lv_at hl 1 rfl) ?_
  refine z_icmp_lt hx hb (tgt := 10) d_PL_isOutside_2 (by decide) h1 h2 (fun c_2 => ?_) (fun c_2 => ?_)
  · refine z_iconst hx hb (z := 1) d_PL_isOutside_10 ?_
    refine lv_goto (tgt := 15) hx hb d_PL_isOutside_11 (by decide) ?_
    exact W.zret (v := iI (1)) hx hb hr (by first | rfl | decide) (fun t ht hW => ⟨_, rfl, by first | (rw [bz_t (by omega)]; done) | (rw [bz_f (by omega)]; done), ht⟩) (fun q h => by cases h) d_PL_isOutside_15
  · refine lv_iload_n hx hb d_PL_isOutside_5 rfl (lv_at hl 0 rfl) ?_
    refine lv_iload_n hx hb d_PL_isOutside_6 rfl (lv_at hl 2 rfl) ?_
    refine z_icmp_le hx hb (tgt := 14) d_PL_isOutside_7 (by decide) h1 h3 (fun c_7 => ?_) (fun c_7 => ?_)
    · refine z_iconst hx hb (z := 0) d_PL_isOutside_14 ?_
      exact W.zret (v := iI (0)) hx hb hr (by first | rfl | decide) (fun t ht hW => ⟨_, rfl, by first | (rw [bz_t (by omega)]; done) | (rw [bz_f (by omega)]; done), ht⟩) (fun q h => by cases h) d_PL_isOutside_15
    · refine z_iconst hx hb (z := 1) d_PL_isOutside_10 ?_
      refine lv_goto (tgt := 15) hx hb d_PL_isOutside_11 (by decide) ?_
      exact W.zret (v := iI (1)) hx hb hr (by first | rfl | decide) (fun t ht hW => ⟨_, rfl, by first | (rw [bz_t (by omega)]; done) | (rw [bz_f (by omega)]; done), ht⟩) (fun q h => by cases h) d_PL_isOutside_15
set_option maxHeartbeats 4000000 in
set_option maxRecDepth 100000 in
/-- PageLayout.count -/
theorem c_count (l : Launch) {D : va_G} {ad : Nat → Nat} {cs : pg_C} {rp : Option Nat} {M : Nat → Nat → Int} (wh : Int) (h1 : zb wh) : Met l y_PL_count ws_PL_count ({ frames := 0, cells := 0, slots := 0, locals := 0 } : Room) (va_Pc [.ref (ad (0)), .int (iI (wh))] (ro_B D vwCl (pg_tys cs) (pg_w ad cs rp M))) (vp_Si (fun r => r = iI (if wh = 0 then M 1 4 else if wh = 1 then M 1 5 else if wh = 2 then M 3 2 else if wh = 3 then M 5 1 else -1))) 0 0 (fun _ => False) := by
  refine Met.ofW (cc := b_PL_count) (maxL := 2) (ret := (some .int)) (by decide) rfl ?_
  intro p e s m args below meth c s₁ B hml hv
  obtain ⟨rfl, hP, hK⟩ := hv
  have hx := B.exec
  have hb := B.bytes
  have hr := B.returns
  have hts := atoms_spec (ws := ws_PL_count) B.pre
  have hg : ∀ w ∈ gt, w.before _ s = true := fun w h => hts w (List.mem_cons_of_mem _ h)
  have hown : s.vm.findClass R_PL = some m.cls := findClass_of_methodNamed B.named
  have hlocks := B.notSynchronized
  have hl := lv_entry ([.ref (ad (0)), .int (iI (wh))]) (n := 2) (Nat.le_of_ble_eq_true rfl)
  rw [lg_entry_eq]
  generalize (lg_sl ([.ref (ad (0)), .int (iI (wh))]) ++ List.replicate (2 - (lg_sl ([.ref (ad (0)), .int (iI (wh))])).length) Slot.unset).toArray = ls at hl ⊢
  have hl : lv_has ls 2 [(0, .ref (ad (0))), (1, .int (iI (wh)))] := hl
  refine lv_iload_n hx hb d_PL_count_0 rfl (lv_at hl 1 rfl) ?_
  rcases (show (wh < 0 ∨ 3 < wh) ∨ wh = 0 ∨ wh = 1 ∨ wh = 2 ∨ wh = 3 by omega) with c_1 | c_1 | c_1 | c_1 | c_1
  · refine z_tabOut hx hb (tgt := 64) d_PL_count_1 h1 c_1 (by decide) ?_
    refine z_iconst hx hb (z := (-1)) d_PL_count_64 ?_
    exact W.iret (v := iI ((-1))) hx hb hr (fun t ht hW => ⟨_, rfl, by repeat' (first | rfl | (exfalso; omega) | split), ht⟩) (fun q h => by cases h) d_PL_count_65
  · refine z_tabIn hx hb (tgt := 32) d_PL_count_1 h1 0 (by omega) (by omega) rfl (by decide) ?_
    refine lv_aload_n hx hb d_PL_count_32 rfl (lv_at hl 0 rfl) ?_
    refine z_get (ci := 0) (C := R_PL) (T := T_PL) (N := 5) (v := .ref (ad (1))) hx hb hg in_PL hown hK hP (0) (by decide) rfl rfl 0 (by decide) (hg _ (List.mem_append_right _ (List.mem_append_right _ (List.mem_append_right _ (List.mem_append_right _ (List.mem_append_left _ (List.mem_of_getElem? (i := 39) rfl))))))) (fun _ h9 => h9) rfl d_PL_count_33 ?_
    refine z_get (ci := 1) (C := R_TX) (T := T_TX) (N := 6) (v := .int (iI (M (1) 4))) hx hb hg in_TX hown hK hP (1) (by decide) rfl rfl 4 (by decide) (hg _ (List.mem_append_right _ (List.mem_append_right _ (List.mem_append_left _ (List.mem_of_getElem? (i := 27) rfl))))) (fun _ h9 => h9) rfl d_PL_count_36 ?_
    exact W.iret (v := iI (M (1) 4)) hx hb hr (fun t ht hW => ⟨_, rfl, by repeat' (first | rfl | (exfalso; omega) | split), ht⟩) (fun q h => by cases h) d_PL_count_39
  · refine z_tabIn hx hb (tgt := 40) d_PL_count_1 h1 1 (by omega) (by omega) rfl (by decide) ?_
    refine lv_aload_n hx hb d_PL_count_40 rfl (lv_at hl 0 rfl) ?_
    refine z_get (ci := 0) (C := R_PL) (T := T_PL) (N := 5) (v := .ref (ad (1))) hx hb hg in_PL hown hK hP (0) (by decide) rfl rfl 0 (by decide) (hg _ (List.mem_append_right _ (List.mem_append_right _ (List.mem_append_right _ (List.mem_append_right _ (List.mem_append_left _ (List.mem_of_getElem? (i := 39) rfl))))))) (fun _ h9 => h9) rfl d_PL_count_41 ?_
    refine z_get (ci := 1) (C := R_TX) (T := T_TX) (N := 6) (v := .int (iI (M (1) 5))) hx hb hg in_TX hown hK hP (1) (by decide) rfl rfl 5 (by decide) (hg _ (List.mem_append_right _ (List.mem_append_right _ (List.mem_append_left _ (List.mem_of_getElem? (i := 31) rfl))))) (fun _ h9 => h9) rfl d_PL_count_44 ?_
    exact W.iret (v := iI (M (1) 5)) hx hb hr (fun t ht hW => ⟨_, rfl, by repeat' (first | rfl | (exfalso; omega) | split), ht⟩) (fun q h => by cases h) d_PL_count_47
  · refine z_tabIn hx hb (tgt := 48) d_PL_count_1 h1 2 (by omega) (by omega) rfl (by decide) ?_
    refine lv_aload_n hx hb d_PL_count_48 rfl (lv_at hl 0 rfl) ?_
    refine z_get (ci := 0) (C := R_PL) (T := T_PL) (N := 5) (v := .ref (ad (3))) hx hb hg in_PL hown hK hP (0) (by decide) rfl rfl 2 (by decide) (hg _ (List.mem_append_right _ (List.mem_append_right _ (List.mem_append_right _ (List.mem_append_right _ (List.mem_append_right _ (List.mem_append_left _ (List.mem_of_getElem? (i := 1) rfl)))))))) (fun _ h9 => h9) rfl d_PL_count_49 ?_
    refine z_get (ci := 3) (C := R_LN) (T := T_LN) (N := 6) (v := .int (iI (M (3) 2))) hx hb hg in_LN hown hK hP (3) (by decide) rfl rfl 2 (by decide) (hg _ (List.mem_append_right _ (List.mem_append_right _ (List.mem_append_right _ (List.mem_append_right _ (List.mem_append_left _ (List.mem_of_getElem? (i := 10) rfl))))))) (fun _ h9 => h9) rfl d_PL_count_52 ?_
    exact W.iret (v := iI (M (3) 2)) hx hb hr (fun t ht hW => ⟨_, rfl, by repeat' (first | rfl | (exfalso; omega) | split), ht⟩) (fun q h => by cases h) d_PL_count_55
  · refine z_tabIn hx hb (tgt := 56) d_PL_count_1 h1 3 (by omega) (by omega) rfl (by decide) ?_
    refine lv_aload_n hx hb d_PL_count_56 rfl (lv_at hl 0 rfl) ?_
    refine z_get (ci := 0) (C := R_PL) (T := T_PL) (N := 5) (v := .ref (ad (5))) hx hb hg in_PL hown hK hP (0) (by decide) rfl rfl 3 (by decide) (hg _ (List.mem_append_right _ (List.mem_append_right _ (List.mem_append_right _ (List.mem_append_right _ (List.mem_append_right _ (List.mem_append_left _ (List.mem_of_getElem? (i := 2) rfl)))))))) (fun _ h9 => h9) rfl d_PL_count_57 ?_
    refine z_get (ci := 5) (C := R_PG) (T := T_PG) (N := 5) (v := .int (iI (M (5) 1))) hx hb hg in_PG hown hK hP (5) (by decide) rfl rfl 1 (by decide) (hg _ (List.mem_append_right _ (List.mem_append_right _ (List.mem_append_right _ (List.mem_append_right _ (List.mem_append_left _ (List.mem_of_getElem? (i := 30) rfl))))))) (fun _ h9 => h9) rfl d_PL_count_60 ?_
    exact W.iret (v := iI (M (5) 1)) hx hb hr (fun t ht hW => ⟨_, rfl, by repeat' (first | rfl | (exfalso; omega) | split), ht⟩) (fun q h => by cases h) d_PL_count_63
end
section
/-! The ruler in the memory, and the search for a line's end, as functions. My own. -/
theorem up_same (M : Nat → Nat → Int) (k : Nat) : va_up M k (M k) = M := by
  funext j
  unfold va_up
  split
  · rename_i h; rw [h]
  · rfl
theorem pg_rp (ad : Nat → Nat) (cs : pg_C) (r1 r2 : Option Nat) : ∀ j, j ≠ 4 → pg_ce ad cs r1 j = pg_ce ad cs r2 j := by
  intro j hj
  funext r
  unfold pg_ce
  split <;> first | rfl | exact absurd rfl hj
def rset (M : Nat → Nat → Int) (r : p_R) : Nat → Nat → Int := va_up M 4 (fun j => if j = 3 then r.1 else if j = 4 then r.2.1 else if j = 5 then r.2.2.1 else if j = 6 then r.2.2.2 else M 4 j)
theorem rset_ne {M : Nat → Nat → Int} {r : p_R} {k : Nat} (h : k ≠ 4) : rset M r k = M k := va_up_ne _ _ h
theorem rset_rul (M : Nat → Nat → Int) (r : p_R) : p_rul (rset M r) = r := by
  unfold p_rul rset
  simp [va_up]
theorem rset_tabs (M : Nat → Nat → Int) (r : p_R) (i n : Nat) : p_tabs (rset M r) i n = p_tabs M i n := by
  unfold p_tabs
  rw [rset_ne (by omega), rset_ne (by omega), rset_ne (by omega)]
theorem rset_wfP {M : Nat → Nat → Int} {r : p_R} {i n : Nat} (h : wfP M i n) : wfP (rset M r) i n := by
  unfold wfP at h ⊢
  rw [rset_ne (by omega), rset_ne (by omega), rset_ne (by omega)]
  exact h
theorem rset_wfT {M : Nat → Nat → Int} {r : p_R} (h : wfT M) : wfT (rset M r) := by
  unfold wfT at h ⊢
  rw [rset_ne (by omega), rset_ne (by omega), rset_ne (by omega), rset_ne (by omega)]
  exact h
theorem rset_rset (M : Nat → Nat → Int) (r q : p_R) : rset (rset M r) q = rset M q := by
  funext k j
  unfold rset va_up
  by_cases h : k = 4
  · simp only [h, if_pos]
    split <;> first | rfl | (split <;> first | rfl | (split <;> first | rfl | (split <;> rfl)))
  · simp only [h, if_false]
theorem m4_3 (M : Nat → Nat → Int) (x : Int) : mset M 4 3 x = rset M (x, M 4 4, M 4 5, M 4 6) := by
  funext a b
  by_cases h : a = 4
  · subst h
    by_cases h3 : b = 3
    · subst h3; simp [mset, rset, va_up]
    · by_cases h4 : b = 4
      · subst h4; simp [mset, rset, va_up]
      · by_cases h5 : b = 5
        · subst h5; simp [mset, rset, va_up]
        · by_cases h6 : b = 6
          · subst h6; simp [mset, rset, va_up]
          · simp [mset, rset, va_up, h3, h4, h5, h6]
  · simp [mset, rset, va_up, h]
theorem m4_4 (M : Nat → Nat → Int) (x : Int) : mset M 4 4 x = rset M (M 4 3, x, M 4 5, M 4 6) := by
  funext a b
  by_cases h : a = 4
  · subst h
    by_cases h3 : b = 3
    · subst h3; simp [mset, rset, va_up]
    · by_cases h4 : b = 4
      · subst h4; simp [mset, rset, va_up]
      · by_cases h5 : b = 5
        · subst h5; simp [mset, rset, va_up]
        · by_cases h6 : b = 6
          · subst h6; simp [mset, rset, va_up]
          · simp [mset, rset, va_up, h3, h4, h5, h6]
  · simp [mset, rset, va_up, h]
theorem m4_5 (M : Nat → Nat → Int) (x : Int) : mset M 4 5 x = rset M (M 4 3, M 4 4, x, M 4 6) := by
  funext a b
  by_cases h : a = 4
  · subst h
    by_cases h3 : b = 3
    · subst h3; simp [mset, rset, va_up]
    · by_cases h4 : b = 4
      · subst h4; simp [mset, rset, va_up]
      · by_cases h5 : b = 5
        · subst h5; simp [mset, rset, va_up]
        · by_cases h6 : b = 6
          · subst h6; simp [mset, rset, va_up]
          · simp [mset, rset, va_up, h3, h4, h5, h6]
  · simp [mset, rset, va_up, h]
theorem m4_6 (M : Nat → Nat → Int) (x : Int) : mset M 4 6 x = rset M (M 4 3, M 4 4, M 4 5, x) := by
  funext a b
  by_cases h : a = 4
  · subst h
    by_cases h3 : b = 3
    · subst h3; simp [mset, rset, va_up]
    · by_cases h4 : b = 4
      · subst h4; simp [mset, rset, va_up]
      · by_cases h5 : b = 5
        · subst h5; simp [mset, rset, va_up]
        · by_cases h6 : b = 6
          · subst h6; simp [mset, rset, va_up]
          · simp [mset, rset, va_up, h3, h4, h5, h6]
  · simp [mset, rset, va_up, h]
theorem rv3 (M : Nat → Nat → Int) (r : p_R) : rset M r 4 3 = r.1 := by simp [rset, va_up]
theorem rv4 (M : Nat → Nat → Int) (r : p_R) : rset M r 4 4 = r.2.1 := by simp [rset, va_up]
theorem rv5 (M : Nat → Nat → Int) (r : p_R) : rset M r 4 5 = r.2.2.1 := by simp [rset, va_up]
theorem rv6 (M : Nat → Nat → Int) (r : p_R) : rset M r 4 6 = r.2.2.2 := by simp [rset, va_up]
def wfr (r : p_R) (B : Int) : Prop := (r.1 = 0 ∨ r.1 = 1) ∧ 0 ≤ r.2.1 ∧ 0 ≤ r.2.2.2 ∧ r.2.2.2 ≤ r.2.2.1 ∧ r.2.1 + r.2.2.1 ≤ B
theorem rset_wfR {M : Nat → Nat → Int} {r : p_R} {B : Int} (h : wfr r B) (hB : B ≤ 40000000) : wfR (rset M r) := by
  have e1 : rset M r 4 3 = r.1 := by simp [rset, va_up]
  have e2 : rset M r 4 4 = r.2.1 := by simp [rset, va_up]
  have e3 : rset M r 4 5 = r.2.2.1 := by simp [rset, va_up]
  have e4 : rset M r 4 6 = r.2.2.2 := by simp [rset, va_up]
  unfold wfR
  rw [e1, e2, e3, e4]
  obtain ⟨h1, h2, h3, h4, h5⟩ := h
  exact ⟨h1, by omega, by omega, by omega⟩
theorem p_tabb {n : Nat} {sp sk : Nat → Int} {p w st : Int} (hp : 0 ≤ p) (hw : 0 ≤ w) (h1 : 1 ≤ st ∧ st ≤ 30000) (hz : ∀ j, 0 ≤ sp j ∧ sp j ≤ 30000) : 0 ≤ p_tab n sp sk p w st ∧ p_tab n sp sk p w st ≤ 60000 := by
  have hl : 0 ≤ p_last n sp ∧ p_last n sp ≤ 30000 := by
    unfold p_last
    split
    · exact hz _
    · omega
  have ha : p_at n sp p st - p ≤ 60000 := by
    unfold p_at
    split
    · have := hz (p_own sp p n 0); omega
    · have := p_stepb (f := max p (p_last n sp)) (st := st) (by omega) (by omega); omega
  have h2 : 0 ≤ w.tdiv 2 := by rw [Int.tdiv_eq_ediv_of_nonneg hw]; omega
  unfold p_tab
  constructor
  · omega
  · split
    · omega
    · split <;> omega
theorem p_widb {kd wd : Nat → Int} {i : Nat} {la : Bool} (h : 0 ≤ wd i ∧ wd i ≤ 4000) : 0 ≤ p_wid kd wd i la ∧ p_wid kd wd i la ≤ 4000 := by
  unfold p_wid
  split <;> omega
theorem p_add_wf {kd wd : Nat → Int} {t : p_T} {r : p_R} {B : Int} {i : Nat} (h : wfr r B) (hw : 0 ≤ wd i ∧ wd i ≤ 4000) (h1 : 1 ≤ t.2.2.2 ∧ t.2.2.2 ≤ 30000) (hz : ∀ j, 0 ≤ t.2.1 j ∧ t.2.1 j ≤ 30000) : wfr (p_add kd wd t r i) (B + 60000) := by
  obtain ⟨a1, a2, a3, a4, a5⟩ := h
  have ht := p_tabb (n := t.1) (sp := t.2.1) (sk := t.2.2.1) (p := r.2.1) (w := r.2.2.1) (st := t.2.2.2) a2 (by omega) h1 hz
  have hb := p_widb (kd := kd) (wd := wd) (i := i) (la := false) hw
  unfold p_add
  split
  · unfold wfr p_ew
    dsimp only
    refine ⟨Or.inr rfl, ?_, by omega, by omega, ?_⟩
    · split <;> omega
    · split <;> omega
  · unfold wfr
    dsimp only
    refine ⟨a1, a2, ?_, ?_, by omega⟩
    · split <;> omega
    · split <;> omega
theorem p_ewb {t : p_T} {r : p_R} {B w : Int} (h : wfr r B) (hw : 0 ≤ w) (h1 : 1 ≤ t.2.2.2 ∧ t.2.2.2 ≤ 30000) (hz : ∀ j, 0 ≤ t.2.1 j ∧ t.2.1 j ≤ 30000) : 0 ≤ p_ew t r w ∧ p_ew t r w ≤ r.2.1 + 60000 + w := by
  obtain ⟨a1, a2, a3, a4, a5⟩ := h
  have ht := p_tabb (n := t.1) (sp := t.2.1) (sk := t.2.2.1) (p := r.2.1) (w := w) (st := t.2.2.2) a2 hw h1 hz
  unfold p_ew
  split <;> omega
theorem p_leastb {t : p_T} {r : p_R} {B : Int} (h : wfr r B) (h1 : 1 ≤ t.2.2.2 ∧ t.2.2.2 ≤ 30000) (hz : ∀ j, 0 ≤ t.2.1 j ∧ t.2.1 j ≤ 30000) : 0 ≤ p_least t r ∧ p_least t r ≤ B + 60000 := by
  have := p_ewb (w := r.2.2.2) h h.2.2.1 h1 hz
  unfold p_least
  obtain ⟨a1, a2, a3, a4, a5⟩ := h
  omega
theorem p_endbb {kd wd : Nat → Int} {k : Nat} {t : p_T} {r : p_R} {B : Int} (h : wfr r B) (hw : 0 ≤ wd k ∧ wd k ≤ 4000) (h1 : 1 ≤ t.2.2.2 ∧ t.2.2.2 ≤ 30000) (hz : ∀ j, 0 ≤ t.2.1 j ∧ t.2.1 j ≤ 30000) : 0 ≤ p_endb kd wd t r k ∧ p_endb kd wd t r k ≤ B + 70000 := by
  have h2 := p_leastb h h1 hz
  obtain ⟨a1, a2, a3, a4, a5⟩ := id h
  have h3 := p_ewb (w := r.2.2.1 + wd k) h (by omega) h1 hz
  unfold p_endb
  split <;> omega
/-- the break behind a sign, if it is one and the line fits -/
def p_nb (kd wd : Nat → Int) (t : p_T) (room : Int) (first beh k b : Nat) (r : p_R) : Nat := if p_brk kd beh k ∧ (b = first ∨ p_endb kd wd t r k ≤ room) then k + 1 else b
/-- the class's search for where a line ends: fuel, the sign, the break so far, the ruler -/
def p_lx (kd wd : Nat → Int) (t : p_T) (room : Int) (first beh : Nat) : Nat → Nat → Nat → p_R → Nat × p_R
  | 0, _, b, r => (b, r)
  | f + 1, k, b, r =>
    if k < beh then
      if (first < p_nb kd wd t room first beh k b (p_add kd wd t r k) ∧ room < p_least t (p_add kd wd t r k)) ∨ p_endl kd k then (p_nb kd wd t room first beh k b (p_add kd wd t r k), p_add kd wd t r k)
      else p_lx kd wd t room first beh f (k + 1) (p_nb kd wd t room first beh k b (p_add kd wd t r k)) (p_add kd wd t r k)
    else (b, r)
section ZW3
variable {p : Program} {l : Launch} {e : Env} {R : Room} {s : State} {m : MethodId} {args : Array Value} {below : List Frame} {meth : Method} {c : Code} {H : Heap} {locs : List Loc} {cells slots : Nat} {Q : State → Prop}
variable {cc : ByteArray} {pc : Nat} {ls : Array Slot} {rest : List Value} {D : va_G} {cl : List vw_C} {A : Nat → Prop} {tys : List (ClassId × FieldType)} {H0 : Heap}
variable {y : MethodName} {bytes : ByteArray} {maxL nL na index : Nat} {ret : Option FieldType} {ws : List Cond} {rm : Room} {Ts : List Cond} {own C : String} {As st0 : List Value} {w w' : va_W} {z : Int}
/-- a static call that writes: no answer -/
theorem rw_Sv (S : CallFix p m c cc nL s args Ts own) (hM : Met l y ws rm (va_Pc As (rw_B D cl tys w H.size)) (va_Qv (fun _ : Unit => True) (rw_E D cl tys w w' H.size) (va_A w H.size)) 0 0 (va_A w H.size)) (cw : CallB R s args own index y bytes maxL ret ws rm 0 0 na ∧ (Cond.static y).before args s = true) (hK : va_K D cl tys s) (hP : va_P D cl w H) (hD : va_D A w) (hS : va_S A H0 H locs) (hA : ∀ q, H0.size ≤ q → A q) (hn : As.length = na) (hsize : ls.size = nL) (hst : st0 = As.reverse ++ rest) (hW : (rest.map fun v => v.category).sum ≤ 8) (hdg : decode cc pc = .ok (.invokestatic index, 3)) (hf : cells + 0 ≤ R.cells ∧ slots + 0 ≤ R.slots)
    (kk : ∀ (H1 : Heap) (locs1 : List Loc), va_P D cl w' H1 → va_D A w' → va_S A H0 H1 locs1 → W p l e R s m args below meth c H1 locs1 cells slots Q (F0 m (pc + 3) ls rest)) : W p l e R s m args below meth c H locs cells slots Q (F0 m pc ls st0) := by
  have hF := rw_free hD hS hA
  refine va_callv (va_runS (As := As) (rest := rest) S hM cw ⟨rw_blind, fun U hU hW => ⟨rfl, by rw [hU], by rw [hU]; exact hP, va_K.moved hW.alike hK, hD.weaken (fun _ _ _ _ => trivial)⟩⟩ rfl hn hsize hst (lv_room hW) hdg hf) hS (fun q _ h => hF q h) hF (fun u t H1 locs1 ht hvm hw hB hz1 hk1 hS1 => ?_)
  obtain ⟨hP1, hK1, hD1⟩ := hB
  rw [ht] at hP1
  exact kk H1 locs1 hP1 (hD1.weaken (fun _ q _ h => hF q.1 h)) hS1
end ZW3
end
section
theorem d_LN_lineBehind_0 : decode b_LN_lineBehind 0 = .ok (.aload_n 0, 1) := by decide +kernel
theorem d_LN_lineBehind_1 : decode b_LN_lineBehind 1 = .ok (.getfield 23, 3) := by decide +kernel
theorem d_LN_lineBehind_4 : decode b_LN_lineBehind 4 = .ok (.getfield 79, 3) := by decide +kernel
theorem d_LN_lineBehind_7 : decode b_LN_lineBehind 7 = .ok (.aload_n 1, 1) := by decide +kernel
theorem d_LN_lineBehind_8 : decode b_LN_lineBehind 8 = .ok (.getfield 53, 3) := by decide +kernel
theorem d_LN_lineBehind_11 : decode b_LN_lineBehind 11 = .ok (.iconst 1, 1) := by decide +kernel
theorem d_LN_lineBehind_12 : decode b_LN_lineBehind 12 = .ok (.iaload, 1) := by decide +kernel
theorem d_LN_lineBehind_13 : decode b_LN_lineBehind 13 = .ok (.isub, 1) := by decide +kernel
theorem d_LN_lineBehind_14 : decode b_LN_lineBehind 14 = .ok (.istore 4, 2) := by decide +kernel
theorem d_LN_lineBehind_16 : decode b_LN_lineBehind 16 = .ok (.iload_n 2, 1) := by decide +kernel
theorem d_LN_lineBehind_17 : decode b_LN_lineBehind 17 = .ok (.istore 5, 2) := by decide +kernel
theorem d_LN_lineBehind_19 : decode b_LN_lineBehind 19 = .ok (.aload_n 0, 1) := by decide +kernel
theorem d_LN_lineBehind_20 : decode b_LN_lineBehind 20 = .ok (.getfield 32, 3) := by decide +kernel
theorem d_LN_lineBehind_23 : decode b_LN_lineBehind 23 = .ok (.aload_n 1, 1) := by decide +kernel
theorem d_LN_lineBehind_24 : decode b_LN_lineBehind 24 = .ok (.iload_n 3, 1) := by decide +kernel
theorem d_LN_lineBehind_25 : decode b_LN_lineBehind 25 = .ok (.invokevirtual 84, 3) := by decide +kernel
theorem d_LN_lineBehind_28 : decode b_LN_lineBehind 28 = .ok (.iload_n 2, 1) := by decide +kernel
theorem d_LN_lineBehind_29 : decode b_LN_lineBehind 29 = .ok (.istore 6, 2) := by decide +kernel
theorem d_LN_lineBehind_31 : decode b_LN_lineBehind 31 = .ok (.iload 6, 2) := by decide +kernel
theorem d_LN_lineBehind_33 : decode b_LN_lineBehind 33 = .ok (.aload_n 1, 1) := by decide +kernel
theorem d_LN_lineBehind_34 : decode b_LN_lineBehind 34 = .ok (.getfield 68, 3) := by decide +kernel
theorem d_LN_lineBehind_37 : decode b_LN_lineBehind 37 = .ok (.if_icmp .ge 102, 3) := by decide +kernel
theorem d_LN_lineBehind_40 : decode b_LN_lineBehind 40 = .ok (.aload_n 0, 1) := by decide +kernel
theorem d_LN_lineBehind_41 : decode b_LN_lineBehind 41 = .ok (.getfield 32, 3) := by decide +kernel
theorem d_LN_lineBehind_44 : decode b_LN_lineBehind 44 = .ok (.iload 6, 2) := by decide +kernel
theorem d_LN_lineBehind_46 : decode b_LN_lineBehind 46 = .ok (.invokevirtual 88, 3) := by decide +kernel
theorem d_LN_lineBehind_49 : decode b_LN_lineBehind 49 = .ok (.aload_n 0, 1) := by decide +kernel
theorem d_LN_lineBehind_50 : decode b_LN_lineBehind 50 = .ok (.getfield 19, 3) := by decide +kernel
theorem d_LN_lineBehind_53 : decode b_LN_lineBehind 53 = .ok (.iload 6, 2) := by decide +kernel
theorem d_LN_lineBehind_55 : decode b_LN_lineBehind 55 = .ok (.aload_n 1, 1) := by decide +kernel
theorem d_LN_lineBehind_56 : decode b_LN_lineBehind 56 = .ok (.invokevirtual 91, 3) := by decide +kernel
theorem d_LN_lineBehind_59 : decode b_LN_lineBehind 59 = .ok (.ifCond .eq 29, 3) := by decide +kernel
theorem d_LN_lineBehind_62 : decode b_LN_lineBehind 62 = .ok (.iload 5, 2) := by decide +kernel
theorem d_LN_lineBehind_64 : decode b_LN_lineBehind 64 = .ok (.iload_n 2, 1) := by decide +kernel
theorem d_LN_lineBehind_65 : decode b_LN_lineBehind 65 = .ok (.if_icmp .eq 17, 3) := by decide +kernel
theorem d_LN_lineBehind_68 : decode b_LN_lineBehind 68 = .ok (.aload_n 0, 1) := by decide +kernel
theorem d_LN_lineBehind_69 : decode b_LN_lineBehind 69 = .ok (.getfield 32, 3) := by decide +kernel
theorem d_LN_lineBehind_72 : decode b_LN_lineBehind 72 = .ok (.iload 6, 2) := by decide +kernel
theorem d_LN_lineBehind_74 : decode b_LN_lineBehind 74 = .ok (.invokevirtual 95, 3) := by decide +kernel
theorem d_LN_lineBehind_77 : decode b_LN_lineBehind 77 = .ok (.iload 4, 2) := by decide +kernel
theorem d_LN_lineBehind_79 : decode b_LN_lineBehind 79 = .ok (.if_icmp .gt 9, 3) := by decide +kernel
theorem d_LN_lineBehind_82 : decode b_LN_lineBehind 82 = .ok (.iload 6, 2) := by decide +kernel
theorem d_LN_lineBehind_84 : decode b_LN_lineBehind 84 = .ok (.iconst 1, 1) := by decide +kernel
theorem d_LN_lineBehind_85 : decode b_LN_lineBehind 85 = .ok (.iadd, 1) := by decide +kernel
theorem d_LN_lineBehind_86 : decode b_LN_lineBehind 86 = .ok (.istore 5, 2) := by decide +kernel
theorem d_LN_lineBehind_88 : decode b_LN_lineBehind 88 = .ok (.iload 5, 2) := by decide +kernel
theorem d_LN_lineBehind_90 : decode b_LN_lineBehind 90 = .ok (.iload_n 2, 1) := by decide +kernel
theorem d_LN_lineBehind_91 : decode b_LN_lineBehind 91 = .ok (.if_icmp .le 19, 3) := by decide +kernel
theorem d_LN_lineBehind_94 : decode b_LN_lineBehind 94 = .ok (.aload_n 0, 1) := by decide +kernel
theorem d_LN_lineBehind_95 : decode b_LN_lineBehind 95 = .ok (.getfield 32, 3) := by decide +kernel
theorem d_LN_lineBehind_98 : decode b_LN_lineBehind 98 = .ok (.invokevirtual 99, 3) := by decide +kernel
theorem d_LN_lineBehind_101 : decode b_LN_lineBehind 101 = .ok (.iload 4, 2) := by decide +kernel
theorem d_LN_lineBehind_103 : decode b_LN_lineBehind 103 = .ok (.if_icmp .le 7, 3) := by decide +kernel
theorem d_LN_lineBehind_106 : decode b_LN_lineBehind 106 = .ok (.iconst 1, 1) := by decide +kernel
theorem d_LN_lineBehind_107 : decode b_LN_lineBehind 107 = .ok (.goto 4, 3) := by decide +kernel
theorem d_LN_lineBehind_110 : decode b_LN_lineBehind 110 = .ok (.iconst 0, 1) := by decide +kernel
theorem d_LN_lineBehind_111 : decode b_LN_lineBehind 111 = .ok (.istore 7, 2) := by decide +kernel
theorem d_LN_lineBehind_113 : decode b_LN_lineBehind 113 = .ok (.iload 7, 2) := by decide +kernel
theorem d_LN_lineBehind_115 : decode b_LN_lineBehind 115 = .ok (.ifCond .ne 24, 3) := by decide +kernel
theorem d_LN_lineBehind_118 : decode b_LN_lineBehind 118 = .ok (.aload_n 0, 1) := by decide +kernel
theorem d_LN_lineBehind_119 : decode b_LN_lineBehind 119 = .ok (.getfield 19, 3) := by decide +kernel
theorem d_LN_lineBehind_122 : decode b_LN_lineBehind 122 = .ok (.iload 6, 2) := by decide +kernel
theorem d_LN_lineBehind_124 : decode b_LN_lineBehind 124 = .ok (.invokevirtual 103, 3) := by decide +kernel
theorem d_LN_lineBehind_127 : decode b_LN_lineBehind 127 = .ok (.ifCond .eq 6, 3) := by decide +kernel
theorem d_LN_lineBehind_130 : decode b_LN_lineBehind 130 = .ok (.goto 9, 3) := by decide +kernel
theorem d_LN_lineBehind_133 : decode b_LN_lineBehind 133 = .ok (.iinc 6 1, 3) := by decide +kernel
theorem d_LN_lineBehind_136 : decode b_LN_lineBehind 136 = .ok (.goto (-105), 3) := by decide +kernel
theorem d_LN_lineBehind_139 : decode b_LN_lineBehind 139 = .ok (.iload 5, 2) := by decide +kernel
theorem d_LN_lineBehind_141 : decode b_LN_lineBehind 141 = .ok (.ireturn, 1) := by decide +kernel
theorem d_RU_begin_0 : decode b_RU_begin 0 = .ok (.aload_n 0, 1) := by decide +kernel
theorem d_RU_begin_1 : decode b_RU_begin 1 = .ok (.aload_n 1, 1) := by decide +kernel
theorem d_RU_begin_2 : decode b_RU_begin 2 = .ok (.putfield 19, 3) := by decide +kernel
theorem d_RU_begin_5 : decode b_RU_begin 5 = .ok (.aload_n 0, 1) := by decide +kernel
theorem d_RU_begin_6 : decode b_RU_begin 6 = .ok (.iconst 0, 1) := by decide +kernel
theorem d_RU_begin_7 : decode b_RU_begin 7 = .ok (.putfield 23, 3) := by decide +kernel
theorem d_RU_begin_10 : decode b_RU_begin 10 = .ok (.aload_n 0, 1) := by decide +kernel
theorem d_RU_begin_11 : decode b_RU_begin 11 = .ok (.iload_n 2, 1) := by decide +kernel
theorem d_RU_begin_12 : decode b_RU_begin 12 = .ok (.invokevirtual 27, 3) := by decide +kernel
theorem d_RU_begin_15 : decode b_RU_begin 15 = .ok (.return_, 1) := by decide +kernel
theorem d_RU_beginStretch_0 : decode b_RU_beginStretch 0 = .ok (.aload_n 0, 1) := by decide +kernel
theorem d_RU_beginStretch_1 : decode b_RU_beginStretch 1 = .ok (.iload_n 1, 1) := by decide +kernel
theorem d_RU_beginStretch_2 : decode b_RU_beginStretch 2 = .ok (.putfield 63, 3) := by decide +kernel
theorem d_RU_beginStretch_5 : decode b_RU_beginStretch 5 = .ok (.aload_n 0, 1) := by decide +kernel
theorem d_RU_beginStretch_6 : decode b_RU_beginStretch 6 = .ok (.iconst 0, 1) := by decide +kernel
theorem d_RU_beginStretch_7 : decode b_RU_beginStretch 7 = .ok (.putfield 37, 3) := by decide +kernel
theorem d_RU_beginStretch_10 : decode b_RU_beginStretch 10 = .ok (.aload_n 0, 1) := by decide +kernel
theorem d_RU_beginStretch_11 : decode b_RU_beginStretch 11 = .ok (.iconst 0, 1) := by decide +kernel
theorem d_RU_beginStretch_12 : decode b_RU_beginStretch 12 = .ok (.putfield 53, 3) := by decide +kernel
theorem d_RU_beginStretch_15 : decode b_RU_beginStretch 15 = .ok (.return_, 1) := by decide +kernel
theorem d_RU_add_0 : decode b_RU_add 0 = .ok (.aload_n 0, 1) := by decide +kernel
theorem d_RU_add_1 : decode b_RU_add 1 = .ok (.getfield 9, 3) := by decide +kernel
theorem d_RU_add_4 : decode b_RU_add 4 = .ok (.getfield 31, 3) := by decide +kernel
theorem d_RU_add_7 : decode b_RU_add 7 = .ok (.iload_n 1, 1) := by decide +kernel
theorem d_RU_add_8 : decode b_RU_add 8 = .ok (.iaload, 1) := by decide +kernel
theorem d_RU_add_9 : decode b_RU_add 9 = .ok (.iconst 2, 1) := by decide +kernel
theorem d_RU_add_10 : decode b_RU_add 10 = .ok (.if_icmp .ne 21, 3) := by decide +kernel
theorem d_RU_add_13 : decode b_RU_add 13 = .ok (.aload_n 0, 1) := by decide +kernel
theorem d_RU_add_14 : decode b_RU_add 14 = .ok (.aload_n 0, 1) := by decide +kernel
theorem d_RU_add_15 : decode b_RU_add 15 = .ok (.aload_n 0, 1) := by decide +kernel
theorem d_RU_add_16 : decode b_RU_add 16 = .ok (.getfield 37, 3) := by decide +kernel
theorem d_RU_add_19 : decode b_RU_add 19 = .ok (.invokevirtual 41, 3) := by decide +kernel
theorem d_RU_add_22 : decode b_RU_add 22 = .ok (.invokevirtual 27, 3) := by decide +kernel
theorem d_RU_add_25 : decode b_RU_add 25 = .ok (.aload_n 0, 1) := by decide +kernel
theorem d_RU_add_26 : decode b_RU_add 26 = .ok (.iconst 1, 1) := by decide +kernel
theorem d_RU_add_27 : decode b_RU_add 27 = .ok (.putfield 23, 3) := by decide +kernel
theorem d_RU_add_30 : decode b_RU_add 30 = .ok (.return_, 1) := by decide +kernel
theorem d_RU_add_31 : decode b_RU_add 31 = .ok (.aload_n 0, 1) := by decide +kernel
theorem d_RU_add_32 : decode b_RU_add 32 = .ok (.dup, 1) := by decide +kernel
theorem d_RU_add_33 : decode b_RU_add 33 = .ok (.getfield 37, 3) := by decide +kernel
theorem d_RU_add_36 : decode b_RU_add 36 = .ok (.aload_n 0, 1) := by decide +kernel
theorem d_RU_add_37 : decode b_RU_add 37 = .ok (.getfield 9, 3) := by decide +kernel
theorem d_RU_add_40 : decode b_RU_add 40 = .ok (.iload_n 1, 1) := by decide +kernel
theorem d_RU_add_41 : decode b_RU_add 41 = .ok (.iconst 0, 1) := by decide +kernel
theorem d_RU_add_42 : decode b_RU_add 42 = .ok (.invokevirtual 45, 3) := by decide +kernel
theorem d_RU_add_45 : decode b_RU_add 45 = .ok (.iadd, 1) := by decide +kernel
theorem d_RU_add_46 : decode b_RU_add 46 = .ok (.putfield 37, 3) := by decide +kernel
theorem d_RU_add_49 : decode b_RU_add 49 = .ok (.aload_n 0, 1) := by decide +kernel
theorem d_RU_add_50 : decode b_RU_add 50 = .ok (.getfield 9, 3) := by decide +kernel
theorem d_RU_add_53 : decode b_RU_add 53 = .ok (.getfield 31, 3) := by decide +kernel
theorem d_RU_add_56 : decode b_RU_add 56 = .ok (.iload_n 1, 1) := by decide +kernel
theorem d_RU_add_57 : decode b_RU_add 57 = .ok (.iaload, 1) := by decide +kernel
theorem d_RU_add_58 : decode b_RU_add 58 = .ok (.iconst 1, 1) := by decide +kernel
theorem d_RU_add_59 : decode b_RU_add 59 = .ok (.if_icmp .eq 22, 3) := by decide +kernel
theorem d_RU_add_62 : decode b_RU_add 62 = .ok (.aload_n 0, 1) := by decide +kernel
theorem d_RU_add_63 : decode b_RU_add 63 = .ok (.getfield 9, 3) := by decide +kernel
theorem d_RU_add_66 : decode b_RU_add 66 = .ok (.iload_n 1, 1) := by decide +kernel
theorem d_RU_add_67 : decode b_RU_add 67 = .ok (.invokevirtual 49, 3) := by decide +kernel
theorem d_RU_add_70 : decode b_RU_add 70 = .ok (.ifCond .ne 11, 3) := by decide +kernel
theorem d_RU_add_73 : decode b_RU_add 73 = .ok (.aload_n 0, 1) := by decide +kernel
theorem d_RU_add_74 : decode b_RU_add 74 = .ok (.aload_n 0, 1) := by decide +kernel
theorem d_RU_add_75 : decode b_RU_add 75 = .ok (.getfield 37, 3) := by decide +kernel
theorem d_RU_add_78 : decode b_RU_add 78 = .ok (.putfield 53, 3) := by decide +kernel
theorem d_RU_add_81 : decode b_RU_add 81 = .ok (.return_, 1) := by decide +kernel
end
section
set_option maxHeartbeats 4000000 in
set_option maxRecDepth 100000 in
/-- Ruler.beginStretch -/
theorem c_beginStretch (l : Launch) {D : va_G} {ad : Nat → Nat} {cs : pg_C} {rp : Option Nat} {M : Nat → Nat → Int} (sz : Nat) (x : Int) : Met l y_RU_beginStretch ws_RU_beginStretch ({ frames := 0, cells := 0, slots := 0, locals := 0 } : Room) (va_Pc [.ref (ad (4)), .int (iI (x))] (rw_B D vwCl (pg_tys cs) (pg_w ad cs rp M) sz)) (va_Qv (fun _ : Unit => True) (rw_E D vwCl (pg_tys cs) (pg_w ad cs rp M) (pg_w ad cs rp (rset M (M 4 3, x, 0, 0))) sz) (va_A (pg_w ad cs rp M) sz)) 0 0 (va_A (pg_w ad cs rp M) sz) := by
  refine Met.ofW (cc := b_RU_beginStretch) (maxL := 2) (ret := none) (by decide) rfl ?_
  intro p e s m args below meth c s₁ B hml hv
  obtain ⟨rfl, hsz, hP, hK, hD0⟩ := hv
  have hx := B.exec
  have hb := B.bytes
  have hr := B.returns
  have hts := atoms_spec (ws := ws_RU_beginStretch) B.pre
  have hg : ∀ w ∈ gt, w.before _ s = true := fun w h => hts w (List.mem_cons_of_mem _ h)
  have hown : s.vm.findClass R_RU = some m.cls := findClass_of_methodNamed B.named
  have hlocks := B.notSynchronized
  subst hsz
  have hD := hD0.self (sz := s.heap.size)
  have hA : ∀ q : Nat, s.heap.size ≤ q → va_A (pg_w ad cs rp M) s.heap.size q := fun q h => Or.inr h
  have hS : va_S (va_A (pg_w ad cs rp M) s.heap.size) s.heap s.heap [] := va_S.rf
  have hl := lv_entry ([.ref (ad (4)), .int (iI (x))]) (n := 2) (Nat.le_of_ble_eq_true rfl)
  rw [lg_entry_eq]
  generalize (lg_sl ([.ref (ad (4)), .int (iI (x))]) ++ List.replicate (2 - (lg_sl ([.ref (ad (4)), .int (iI (x))])).length) Slot.unset).toArray = ls at hl ⊢
  have hl : lv_has ls 2 [(0, .ref (ad (4))), (1, .int (iI (x)))] := hl
  refine lv_aload_n hx hb d_RU_beginStretch_0 rfl (lv_at hl 0 rfl) ?_
  refine lv_iload_n hx hb d_RU_beginStretch_1 rfl (lv_at hl 1 rfl) ?_
  refine z_put (ci := 4) (C := R_RU) (T := T_RU) (N := 7) (v := .int (iI (x))) (ty := .int) (ce' := (pg_ce ad cs rp)) (r := va_up (M (4)) 4 (x)) hx hb hg in_RU ty_RU tk_RU nm_RU hown hK hP hD hS (4) (by decide) rfl rfl 4 (by decide) (hg _ (List.mem_append_right _ (List.mem_append_right _ (List.mem_append_right _ (List.mem_append_left _ (List.mem_of_getElem? (i := 33) rfl)))))) (fun _ h9 => h9) rfl (by decide +kernel) rfl rfl (Nat.le_of_ble_eq_true rfl) (fun _ _ => rfl) rfl d_RU_beginStretch_2 (fun H locs hP hD hS => ?_)
  obtain ⟨M_1, eM_1⟩ : ∃ q_, q_ = mset M (4) (4) (x) := ⟨_, rfl⟩
  have hP : va_P D vwCl (pg_w ad cs rp M_1) H := by rw [eM_1]; exact hP
  have hD : va_D (va_A (pg_w ad cs rp M) s.heap.size) (pg_w ad cs rp M_1) := by rw [eM_1]; exact hD
  refine lv_aload_n hx hb d_RU_beginStretch_5 rfl (lv_at hl 0 rfl) ?_
  refine z_iconst hx hb (z := 0) d_RU_beginStretch_6 ?_
  refine z_put (ci := 4) (C := R_RU) (T := T_RU) (N := 7) (v := .int (iI (0))) (ty := .int) (ce' := (pg_ce ad cs rp)) (r := va_up (M_1 (4)) 5 (0)) hx hb hg in_RU ty_RU tk_RU nm_RU hown hK hP hD hS (4) (by decide) rfl rfl 5 (by decide) (hg _ (List.mem_append_right _ (List.mem_append_right _ (List.mem_append_right _ (List.mem_append_left _ (List.mem_of_getElem? (i := 34) rfl)))))) (fun _ h9 => h9) rfl (by decide +kernel) rfl rfl (Nat.le_of_ble_eq_true rfl) (fun _ _ => rfl) rfl d_RU_beginStretch_7 (fun H locs hP hD hS => ?_)
  obtain ⟨M_2, eM_2⟩ : ∃ q_, q_ = mset M_1 (4) (5) (0) := ⟨_, rfl⟩
  have hP : va_P D vwCl (pg_w ad cs rp M_2) H := by rw [eM_2]; exact hP
  have hD : va_D (va_A (pg_w ad cs rp M) s.heap.size) (pg_w ad cs rp M_2) := by rw [eM_2]; exact hD
  refine lv_aload_n hx hb d_RU_beginStretch_10 rfl (lv_at hl 0 rfl) ?_
  refine z_iconst hx hb (z := 0) d_RU_beginStretch_11 ?_
  refine z_put (ci := 4) (C := R_RU) (T := T_RU) (N := 7) (v := .int (iI (0))) (ty := .int) (ce' := (pg_ce ad cs rp)) (r := va_up (M_2 (4)) 6 (0)) hx hb hg in_RU ty_RU tk_RU nm_RU hown hK hP hD hS (4) (by decide) rfl rfl 6 (by decide) (hg _ (List.mem_append_right _ (List.mem_append_right _ (List.mem_append_right _ (List.mem_append_left _ (List.mem_of_getElem? (i := 35) rfl)))))) (fun _ h9 => h9) rfl (by decide +kernel) rfl rfl (Nat.le_of_ble_eq_true rfl) (fun _ _ => rfl) rfl d_RU_beginStretch_12 (fun H locs hP hD hS => ?_)
  obtain ⟨M_3, eM_3⟩ : ∃ q_, q_ = mset M_2 (4) (6) (0) := ⟨_, rfl⟩
  have hP : va_P D vwCl (pg_w ad cs rp M_3) H := by rw [eM_3]; exact hP
  have hD : va_D (va_A (pg_w ad cs rp M) s.heap.size) (pg_w ad cs rp M_3) := by rw [eM_3]; exact hD
  have hM : M_3 = rset M (M 4 3, x, 0, 0) := by simp only [eM_3, eM_2, eM_1, m4_3, m4_4, m4_5, m4_6, rset_rset, rv3, rv4, rv5, rv6]
  have eW : pg_w ad cs rp (M_3) = pg_w ad cs rp (rset M (M 4 3, x, 0, 0)) := by rw [hM]
  have hP := Eq.mp (congrArg (fun q => va_P D vwCl q _) eW) hP
  have hD := Eq.mp (congrArg (va_D _) eW) hD
  exact W.vret hx hb hr (fun t ht hW => ⟨⟨(), rfl, trivial, by rw [ht]; exact hP, va_K.moved hW.alike hK, hD⟩, hS.F ht⟩) hS.2.2 d_RU_beginStretch_15
set_option maxHeartbeats 4000000 in
set_option maxRecDepth 100000 in
/-- Ruler.begin -/
theorem c_begin (l : Launch) {D : va_G} {ad : Nat → Nat} {cs : pg_C} {rp : Option Nat} {M : Nat → Nat → Int} (sz : Nat) (i : Nat) (x : Int) (hi : i < 30) : Met l y_RU_begin ws_RU_begin ({ frames := 1, cells := 0, slots := 0, locals := 21 } : Room) (va_Pc [.ref (ad (4)), .ref (ad (29 + 4 * i)), .int (iI (x))] (rw_B D vwCl (pg_tys cs) (pg_w ad cs rp M) sz)) (va_Qv (fun _ : Unit => True) (rw_E D vwCl (pg_tys cs) (pg_w ad cs rp M) (pg_w ad cs (some i) (rset M (0, x, 0, 0))) sz) (va_A (pg_w ad cs rp M) sz)) 0 0 (va_A (pg_w ad cs rp M) sz) := by
  refine Met.ofW (cc := b_RU_begin) (maxL := 3) (ret := none) (by decide) rfl ?_
  intro p e s m args below meth c s₁ B hml hv
  obtain ⟨rfl, hsz, hP, hK, hD0⟩ := hv
  have hx := B.exec
  have hb := B.bytes
  have hr := B.returns
  have hts := atoms_spec (ws := ws_RU_begin) B.pre
  have hg : ∀ w ∈ gt, w.before _ s = true := fun w h => hts w (List.mem_cons_of_mem _ h)
  have hown : s.vm.findClass R_RU = some m.cls := findClass_of_methodNamed B.named
  have hlocks := B.notSynchronized
  subst hsz
  have hD := hD0.self (sz := s.heap.size)
  have hA : ∀ q : Nat, s.heap.size ≤ q → va_A (pg_w ad cs rp M) s.heap.size q := fun q h => Or.inr h
  have hS : va_S (va_A (pg_w ad cs rp M) s.heap.size) s.heap s.heap [] := va_S.rf
  have hl := lv_entry ([.ref (ad (4)), .ref (ad (29 + 4 * i)), .int (iI (x))]) (n := 3) (Nat.le_of_ble_eq_true rfl)
  rw [lg_entry_eq]
  generalize (lg_sl ([.ref (ad (4)), .ref (ad (29 + 4 * i)), .int (iI (x))]) ++ List.replicate (3 - (lg_sl ([.ref (ad (4)), .ref (ad (29 + 4 * i)), .int (iI (x))])).length) Slot.unset).toArray = ls at hl ⊢
  have hl : lv_has ls 3 [(0, .ref (ad (4))), (1, .ref (ad (29 + 4 * i))), (2, .int (iI (x)))] := hl
  refine lv_aload_n hx hb d_RU_begin_0 rfl (lv_at hl 0 rfl) ?_
  refine lv_aload_n hx hb d_RU_begin_1 rfl (lv_at hl 1 rfl) ?_
  refine z_put (ci := 4) (C := R_RU) (T := T_RU) (N := 7) (v := .ref (ad (29 + 4 * i))) (ty := .object "PageLayout$Paragraph") (ce' := (pg_ce ad cs (some i))) (r := M 4) hx hb hg in_RU ty_RU tk_RU nm_RU hown hK hP hD hS (4) (by decide) rfl rfl 2 (by decide) (hg _ (List.mem_append_right _ (List.mem_append_right _ (List.mem_append_right _ (List.mem_append_left _ (List.mem_of_getElem? (i := 31) rfl)))))) (fun _ h9 => h9) rfl (by decide +kernel) rfl rfl (Nat.le_of_ble_eq_true rfl) (pg_rp ad cs _ _) rfl d_RU_begin_2 (fun H locs hP hD hS => ?_)
  rw [up_same] at hP hD
  have hP : va_P D vwCl (pg_w ad cs (some i) M) H := hP
  have hD : va_D (va_A (pg_w ad cs rp M) s.heap.size) (pg_w ad cs (some i) M) := hD
  refine lv_aload_n hx hb d_RU_begin_5 rfl (lv_at hl 0 rfl) ?_
  refine z_iconst hx hb (z := 0) d_RU_begin_6 ?_
  refine z_put (ci := 4) (C := R_RU) (T := T_RU) (N := 7) (v := .int (iI (0))) (ty := .boolean) (ce' := (pg_ce ad cs (some i))) (r := va_up (M (4)) 3 (0)) hx hb hg in_RU ty_RU tk_RU nm_RU hown hK hP hD hS (4) (by decide) rfl rfl 3 (by decide) (hg _ (List.mem_append_right _ (List.mem_append_right _ (List.mem_append_right _ (List.mem_append_left _ (List.mem_of_getElem? (i := 32) rfl)))))) (fun _ h9 => h9) rfl (by decide +kernel) rfl rfl (Nat.le_of_ble_eq_true rfl) (fun _ _ => rfl) rfl d_RU_begin_7 (fun H locs hP hD hS => ?_)
  obtain ⟨M_1, eM_1⟩ : ∃ q_, q_ = mset M (4) (3) (0) := ⟨_, rfl⟩
  have hP : va_P D vwCl (pg_w ad cs (some i) M_1) H := by rw [eM_1]; exact hP
  have hD : va_D (va_A (pg_w ad cs rp M) s.heap.size) (pg_w ad cs (some i) M_1) := by rw [eM_1]; exact hD
  refine lv_aload_n hx hb d_RU_begin_10 rfl (lv_at hl 0 rfl) ?_
  refine lv_iload_n hx hb d_RU_begin_11 rfl (lv_at hl 2 rfl) ?_
  refine rw_Vv (As := [.int (iI (x))]) (rest := []) (w' := (pg_w ad cs (some i) (rset M_1 (M_1 4 3, x, 0, 0)))) ⟨hx, hb, hml, hown, hg⟩ (c_beginStretch l _ (x)) (cwV 1 hg (gt_V (List.mem_append_right _ (List.mem_append_right _ (List.mem_append_right _ (List.mem_append_right _ (List.mem_append_right _ (List.mem_append_right _ (List.mem_append_right _ (List.mem_append_left _ (List.mem_of_getElem? (i := 6) rfl))))))))) (List.mem_append_right _ (List.mem_append_right _ (List.mem_append_right _ (List.mem_append_right _ (List.mem_append_right _ (List.mem_append_right _ (List.mem_append_right _ (List.mem_append_left _ (List.mem_of_getElem? (i := 7) rfl))))))))) (List.mem_append_left _ (List.mem_of_getElem? (i := 11) rfl)) (List.mem_append_right _ (List.mem_append_left _ (List.mem_of_getElem? (i := 7) rfl))) (List.mem_append_right _ (List.mem_append_right _ (List.mem_append_right _ (List.mem_append_right _ (List.mem_append_right _ (List.mem_append_right _ (List.mem_append_right _ (List.mem_append_left _ (List.mem_of_getElem? (i := 8) rfl)))))))))) rfl rfl rfl (by decide +kernel) ⟨Nat.le_of_ble_eq_true rfl, Nat.le_of_ble_eq_true rfl⟩) hK hP hD hS hA (va_recv hK hP (ci := 4) (q0 := 4) rfl (wl_atE (by decide) rfl)) rfl hl.1 rfl (Nat.le_of_ble_eq_true rfl) d_RU_begin_12 ⟨Nat.zero_le _, Nat.zero_le _⟩ (fun H locs hP hD hS => ?_)
  obtain ⟨M_2, eM_2⟩ : ∃ q_, q_ = rset M_1 (M_1 4 3, x, 0, 0) := ⟨_, rfl⟩
  have hP : va_P D vwCl (pg_w ad cs (some i) M_2) H := by rw [eM_2]; exact hP
  have hD : va_D (va_A (pg_w ad cs rp M) s.heap.size) (pg_w ad cs (some i) M_2) := by rw [eM_2]; exact hD
  have hM : M_2 = rset M (0, x, 0, 0) := by simp only [eM_2, eM_1, m4_3, m4_4, m4_5, m4_6, rset_rset, rv3, rv4, rv5, rv6]
  have eW : pg_w ad cs (some i) (M_2) = pg_w ad cs (some i) (rset M (0, x, 0, 0)) := by rw [hM]
  have hP := Eq.mp (congrArg (fun q => va_P D vwCl q _) eW) hP
  have hD := Eq.mp (congrArg (va_D _) eW) hD
  exact W.vret hx hb hr (fun t ht hW => ⟨⟨(), rfl, trivial, by rw [ht]; exact hP, va_K.moved hW.alike hK, hD⟩, hS.F ht⟩) hS.2.2 d_RU_begin_15
set_option maxHeartbeats 4000000 in
set_option maxRecDepth 100000 in
/-- Ruler.add -/
theorem c_add (l : Launch) {D : va_G} {ad : Nat → Nat} {cs : pg_C} {M : Nat → Nat → Int} (sz : Nat) (i n k : Nat) (hk : k < 600) (hp : wfP M i n) (ht : wfT M) (hr0 : wfR M) : Met l y_RU_add ws_RU_add ({ frames := 3, cells := 0, slots := 0, locals := 73 } : Room) (va_Pc [.ref (ad (4)), .int (iI (((k : Nat) : Int)))] (rw_B D vwCl (pg_tys cs) (pg_w ad cs (some i) M) sz)) (va_Qv (fun _ : Unit => True) (rw_E D vwCl (pg_tys cs) (pg_w ad cs (some i) M) (pg_w ad cs (some i) (rset M (p_add (M 7) (M 8) (p_tabs M i n) (p_rul M) k))) sz) (va_A (pg_w ad cs (some i) M) sz)) 0 0 (va_A (pg_w ad cs (some i) M) sz) := by
  refine Met.ofW (cc := b_RU_add) (maxL := 2) (ret := none) (by decide) rfl ?_
  intro p e s m args below meth c s₁ B hml hv
  obtain ⟨rfl, hsz, hP, hK, hD0⟩ := hv
  have hx := B.exec
  have hb := B.bytes
  have hr := B.returns
  have hts := atoms_spec (ws := ws_RU_add) B.pre
  have hg : ∀ w ∈ gt, w.before _ s = true := fun w h => hts w (List.mem_cons_of_mem _ h)
  have hown : s.vm.findClass R_RU = some m.cls := findClass_of_methodNamed B.named
  have hlocks := B.notSynchronized
  subst hsz
  have hD := hD0.self (sz := s.heap.size)
  have hA : ∀ q : Nat, s.heap.size ≤ q → va_A (pg_w ad cs (some i) M) s.heap.size q := fun q h => Or.inr h
  have hS : va_S (va_A (pg_w ad cs (some i) M) s.heap.size) s.heap s.heap [] := va_S.rf
  have hl := lv_entry ([.ref (ad (4)), .int (iI (((k : Nat) : Int)))]) (n := 2) (Nat.le_of_ble_eq_true rfl)
  rw [lg_entry_eq]
  generalize (lg_sl ([.ref (ad (4)), .int (iI (((k : Nat) : Int)))]) ++ List.replicate (2 - (lg_sl ([.ref (ad (4)), .int (iI (((k : Nat) : Int)))])).length) Slot.unset).toArray = ls at hl ⊢
  have hl : lv_has ls 2 [(0, .ref (ad (4))), (1, .int (iI (((k : Nat) : Int))))] := hl
  refine lv_aload_n hx hb d_RU_add_0 rfl (lv_at hl 0 rfl) ?_
  refine z_get (ci := 4) (C := R_RU) (T := T_RU) (N := 7) (v := .ref (ad (1))) hx hb hg in_RU hown hK hP (4) (by decide) rfl rfl 0 (by decide) (hg _ (List.mem_append_right _ (List.mem_append_right _ (List.mem_append_right _ (List.mem_append_left _ (List.mem_of_getElem? (i := 29) rfl)))))) (fun _ h9 => h9) rfl d_RU_add_1 ?_
  refine z_get (ci := 1) (C := R_TX) (T := T_TX) (N := 6) (v := .ref (ad (7))) hx hb hg in_TX hown hK hP (1) (by decide) rfl rfl 1 (by decide) (hg _ (List.mem_append_right _ (List.mem_append_right _ (List.mem_append_left _ (List.mem_of_getElem? (i := 21) rfl))))) (fun _ h9 => h9) rfl d_RU_add_4 ?_
  refine lv_iload_n hx hb d_RU_add_7 rfl (lv_at hl 1 rfl) ?_
  refine z_iald hx hb hK hP (7) 0 (by decide) (fun _ => rfl) rfl (k) rfl (by omega) (by decide) d_RU_add_8 ?_
  refine z_iconst hx hb (z := 2) d_RU_add_9 ?_
  refine z_icmp_ne hx hb (tgt := 31) d_RU_add_10 (by decide) (zb_7 ht _) ⟨by decide, by decide⟩ (fun c_10 => ?_) (fun c_10 => ?_)
  · refine lv_aload_n hx hb d_RU_add_31 rfl (lv_at hl 0 rfl) ?_
    refine lv_dup hx hb d_RU_add_32 rfl ?_
    refine z_get (ci := 4) (C := R_RU) (T := T_RU) (N := 7) (v := .int (iI (M (4) 5))) hx hb hg in_RU hown hK hP (4) (by decide) rfl rfl 5 (by decide) (hg _ (List.mem_append_right _ (List.mem_append_right _ (List.mem_append_right _ (List.mem_append_left _ (List.mem_of_getElem? (i := 34) rfl)))))) (fun _ h9 => h9) rfl d_RU_add_33 ?_
    refine lv_aload_n hx hb d_RU_add_36 rfl (lv_at hl 0 rfl) ?_
    refine z_get (ci := 4) (C := R_RU) (T := T_RU) (N := 7) (v := .ref (ad (1))) hx hb hg in_RU hown hK hP (4) (by decide) rfl rfl 0 (by decide) (hg _ (List.mem_append_right _ (List.mem_append_right _ (List.mem_append_right _ (List.mem_append_left _ (List.mem_of_getElem? (i := 29) rfl)))))) (fun _ h9 => h9) rfl d_RU_add_37 ?_
    refine lv_iload_n hx hb d_RU_add_40 rfl (lv_at hl 1 rfl) ?_
    refine z_iconst hx hb (z := 0) d_RU_add_41 ?_
    refine ro_V (As := [.int (iI (((k : Nat) : Int))), .int (iI (0))]) (rest := [.int (iI (M (4) 5)), .ref (ad (4))]) (z := p_wid (M 7) (M 8) k false) ⟨hx, hb, hml, hown, hg⟩ (c_widthWithin l k false (by omega) (zb_7 ht)) (cwV 2 hg (gt_V (List.mem_append_right _ (List.mem_append_right _ (List.mem_append_right _ (List.mem_append_right _ (List.mem_append_right _ (List.mem_append_right _ (List.mem_append_right _ (List.mem_append_left _ (List.mem_of_getElem? (i := 17) rfl))))))))) (List.mem_append_right _ (List.mem_append_right _ (List.mem_append_right _ (List.mem_append_right _ (List.mem_append_right _ (List.mem_append_right _ (List.mem_append_left _ (List.mem_of_getElem? (i := 8) rfl)))))))) (List.mem_append_right _ (List.mem_append_right _ (List.mem_append_right _ (List.mem_append_right _ (List.mem_append_right _ (List.mem_append_right _ (List.mem_append_left _ (List.mem_of_getElem? (i := 9) rfl)))))))) (List.mem_append_right _ (List.mem_append_left _ (List.mem_of_getElem? (i := 3) rfl))) (List.mem_append_right _ (List.mem_append_right _ (List.mem_append_right _ (List.mem_append_right _ (List.mem_append_right _ (List.mem_append_right _ (List.mem_append_left _ (List.mem_of_getElem? (i := 10) rfl))))))))) rfl rfl rfl (by decide +kernel) ⟨Nat.le_of_ble_eq_true rfl, Nat.le_of_ble_eq_true rfl⟩) hK hP (va_recv hK hP (ci := 1) (q0 := 1) rfl (wl_atE (by decide) rfl)) rfl hl.1 rfl (Nat.le_of_ble_eq_true rfl) d_RU_add_42 ⟨Nat.zero_le _, Nat.zero_le _⟩ ?_
    refine z_iadd hx hb d_RU_add_45 (v := (M (4) 5 + p_wid (M 7) (M 8) k false)) rfl ?_
    refine z_put (ci := 4) (C := R_RU) (T := T_RU) (N := 7) (v := .int (iI ((M (4) 5 + p_wid (M 7) (M 8) k false)))) (ty := .int) (ce' := (pg_ce ad cs (some i))) (r := va_up (M (4)) 5 ((M (4) 5 + p_wid (M 7) (M 8) k false))) hx hb hg in_RU ty_RU tk_RU nm_RU hown hK hP hD hS (4) (by decide) rfl rfl 5 (by decide) (hg _ (List.mem_append_right _ (List.mem_append_right _ (List.mem_append_right _ (List.mem_append_left _ (List.mem_of_getElem? (i := 34) rfl)))))) (fun _ h9 => h9) rfl (by decide +kernel) rfl rfl (Nat.le_of_ble_eq_true rfl) (fun _ _ => rfl) rfl d_RU_add_46 (fun H locs hP hD hS => ?_)
    obtain ⟨M_1, eM_1⟩ : ∃ q_, q_ = mset M (4) (5) ((M (4) 5 + p_wid (M 7) (M 8) k false)) := ⟨_, rfl⟩
    have hP : va_P D vwCl (pg_w ad cs (some i) M_1) H := by rw [eM_1]; exact hP
    have hD : va_D (va_A (pg_w ad cs (some i) M) s.heap.size) (pg_w ad cs (some i) M_1) := by rw [eM_1]; exact hD
    have e7 : M_1 7 = M 7 := by rw [eM_1]; exact va_up_ne _ _ (by omega)
    have ht9 : wfT M_1 := by rw [eM_1]; unfold wfT mset at *; rw [va_up_ne _ _ (by omega), va_up_ne _ _ (by omega), va_up_ne _ _ (by omega), va_up_ne _ _ (by omega)]; exact ht
    refine lv_aload_n hx hb d_RU_add_49 rfl (lv_at hl 0 rfl) ?_
    refine z_get (ci := 4) (C := R_RU) (T := T_RU) (N := 7) (v := .ref (ad (1))) hx hb hg in_RU hown hK hP (4) (by decide) rfl rfl 0 (by decide) (hg _ (List.mem_append_right _ (List.mem_append_right _ (List.mem_append_right _ (List.mem_append_left _ (List.mem_of_getElem? (i := 29) rfl)))))) (fun _ h9 => h9) rfl d_RU_add_50 ?_
    refine z_get (ci := 1) (C := R_TX) (T := T_TX) (N := 6) (v := .ref (ad (7))) hx hb hg in_TX hown hK hP (1) (by decide) rfl rfl 1 (by decide) (hg _ (List.mem_append_right _ (List.mem_append_right _ (List.mem_append_left _ (List.mem_of_getElem? (i := 21) rfl))))) (fun _ h9 => h9) rfl d_RU_add_53 ?_
    refine lv_iload_n hx hb d_RU_add_56 rfl (lv_at hl 1 rfl) ?_
    refine z_iald hx hb hK hP (7) 0 (by decide) (fun _ => rfl) rfl (k) rfl (by omega) (by decide) d_RU_add_57 ?_
    refine z_iconst hx hb (z := 1) d_RU_add_58 ?_
    refine z_icmp_eq hx hb (tgt := 81) d_RU_add_59 (by decide) (zb_7 ht9 _) ⟨by decide, by decide⟩ (fun c_59 => ?_) (fun c_59 => ?_)
    · have hM : M_1 = rset M (p_add (M 7) (M 8) (p_tabs M i n) (p_rul M) k) := by rw [e7] at c_59; unfold p_add; rw [if_neg (by omega)]; (first | rw [if_pos (by omega)] | rw [if_neg (by omega)]); simp only [eM_1, m4_3, m4_4, m4_5, m4_6, rset_rset, rv3, rv4, rv5, rv6, p_rul]
      have eW : pg_w ad cs (some i) (M_1) = pg_w ad cs (some i) (rset M (p_add (M 7) (M 8) (p_tabs M i n) (p_rul M) k)) := by rw [hM]
      have hP := Eq.mp (congrArg (fun q => va_P D vwCl q _) eW) hP
      have hD := Eq.mp (congrArg (va_D _) eW) hD
      exact W.vret hx hb hr (fun t ht hW => ⟨⟨(), rfl, trivial, by rw [ht]; exact hP, va_K.moved hW.alike hK, hD⟩, hS.F ht⟩) hS.2.2 d_RU_add_81
    · refine lv_aload_n hx hb d_RU_add_62 rfl (lv_at hl 0 rfl) ?_
      refine z_get (ci := 4) (C := R_RU) (T := T_RU) (N := 7) (v := .ref (ad (1))) hx hb hg in_RU hown hK hP (4) (by decide) rfl rfl 0 (by decide) (hg _ (List.mem_append_right _ (List.mem_append_right _ (List.mem_append_right _ (List.mem_append_left _ (List.mem_of_getElem? (i := 29) rfl)))))) (fun _ h9 => h9) rfl d_RU_add_63 ?_
      refine lv_iload_n hx hb d_RU_add_66 rfl (lv_at hl 1 rfl) ?_
      refine ro_V (As := [.int (iI (((k : Nat) : Int)))]) (rest := []) (z := bz (p_endl (M_1 7) k) inferInstance) ⟨hx, hb, hml, hown, hg⟩ (c_endsLine (M := M_1) l k (by omega) (zb_7 ht9)) (cwV 1 hg (gt_V (List.mem_append_right _ (List.mem_append_right _ (List.mem_append_right _ (List.mem_append_right _ (List.mem_append_right _ (List.mem_append_right _ (List.mem_append_right _ (List.mem_append_left _ (List.mem_of_getElem? (i := 18) rfl))))))))) (List.mem_append_right _ (List.mem_append_right _ (List.mem_append_right _ (List.mem_append_right _ (List.mem_append_right _ (List.mem_append_left _ (List.mem_of_getElem? (i := 38) rfl))))))) (List.mem_append_right _ (List.mem_append_right _ (List.mem_append_right _ (List.mem_append_right _ (List.mem_append_right _ (List.mem_append_left _ (List.mem_of_getElem? (i := 39) rfl))))))) (List.mem_append_right _ (List.mem_append_left _ (List.mem_of_getElem? (i := 3) rfl))) (List.mem_append_right _ (List.mem_append_right _ (List.mem_append_right _ (List.mem_append_right _ (List.mem_append_right _ (List.mem_append_right _ (List.mem_append_left _ (List.mem_of_getElem? (i := 0) rfl))))))))) rfl rfl rfl (by decide +kernel) ⟨Nat.le_of_ble_eq_true rfl, Nat.le_of_ble_eq_true rfl⟩) hK hP (va_recv hK hP (ci := 1) (q0 := 1) rfl (wl_atE (by decide) rfl)) rfl hl.1 rfl (Nat.le_of_ble_eq_true rfl) d_RU_add_67 ⟨Nat.zero_le _, Nat.zero_le _⟩ ?_
      refine z_ifb_ne hx hb (tgt := 81) d_RU_add_70 (by decide) (fun c_70 => ?_) (fun c_70 => ?_)
      · have hM : M_1 = rset M (p_add (M 7) (M 8) (p_tabs M i n) (p_rul M) k) := by rw [e7] at c_59; rw [e7] at c_70; unfold p_add; rw [if_neg (by omega)]; (first | rw [if_pos (by omega)] | rw [if_neg (by omega)]); simp only [eM_1, m4_3, m4_4, m4_5, m4_6, rset_rset, rv3, rv4, rv5, rv6, p_rul]
        have eW : pg_w ad cs (some i) (M_1) = pg_w ad cs (some i) (rset M (p_add (M 7) (M 8) (p_tabs M i n) (p_rul M) k)) := by rw [hM]
        have hP := Eq.mp (congrArg (fun q => va_P D vwCl q _) eW) hP
        have hD := Eq.mp (congrArg (va_D _) eW) hD
        exact W.vret hx hb hr (fun t ht hW => ⟨⟨(), rfl, trivial, by rw [ht]; exact hP, va_K.moved hW.alike hK, hD⟩, hS.F ht⟩) hS.2.2 d_RU_add_81
      · refine lv_aload_n hx hb d_RU_add_73 rfl (lv_at hl 0 rfl) ?_
        refine lv_aload_n hx hb d_RU_add_74 rfl (lv_at hl 0 rfl) ?_
        refine z_get (ci := 4) (C := R_RU) (T := T_RU) (N := 7) (v := .int (iI (M_1 (4) 5))) hx hb hg in_RU hown hK hP (4) (by decide) rfl rfl 5 (by decide) (hg _ (List.mem_append_right _ (List.mem_append_right _ (List.mem_append_right _ (List.mem_append_left _ (List.mem_of_getElem? (i := 34) rfl)))))) (fun _ h9 => h9) rfl d_RU_add_75 ?_
        refine z_put (ci := 4) (C := R_RU) (T := T_RU) (N := 7) (v := .int (iI (M_1 (4) 5))) (ty := .int) (ce' := (pg_ce ad cs (some i))) (r := va_up (M_1 (4)) 6 (M_1 (4) 5)) hx hb hg in_RU ty_RU tk_RU nm_RU hown hK hP hD hS (4) (by decide) rfl rfl 6 (by decide) (hg _ (List.mem_append_right _ (List.mem_append_right _ (List.mem_append_right _ (List.mem_append_left _ (List.mem_of_getElem? (i := 35) rfl)))))) (fun _ h9 => h9) rfl (by decide +kernel) rfl rfl (Nat.le_of_ble_eq_true rfl) (fun _ _ => rfl) rfl d_RU_add_78 (fun H locs hP hD hS => ?_)
        obtain ⟨M_2, eM_2⟩ : ∃ q_, q_ = mset M_1 (4) (6) (M_1 (4) 5) := ⟨_, rfl⟩
        have hP : va_P D vwCl (pg_w ad cs (some i) M_2) H := by rw [eM_2]; exact hP
        have hD : va_D (va_A (pg_w ad cs (some i) M) s.heap.size) (pg_w ad cs (some i) M_2) := by rw [eM_2]; exact hD
        have hM : M_2 = rset M (p_add (M 7) (M 8) (p_tabs M i n) (p_rul M) k) := by rw [e7] at c_59; rw [e7] at c_70; unfold p_add; rw [if_neg (by omega)]; (first | rw [if_pos (by omega)] | rw [if_neg (by omega)]); simp only [eM_2, eM_1, m4_3, m4_4, m4_5, m4_6, rset_rset, rv3, rv4, rv5, rv6, p_rul]
        have eW : pg_w ad cs (some i) (M_2) = pg_w ad cs (some i) (rset M (p_add (M 7) (M 8) (p_tabs M i n) (p_rul M) k)) := by rw [hM]
        have hP := Eq.mp (congrArg (fun q => va_P D vwCl q _) eW) hP
        have hD := Eq.mp (congrArg (va_D _) eW) hD
        exact W.vret hx hb hr (fun t ht hW => ⟨⟨(), rfl, trivial, by rw [ht]; exact hP, va_K.moved hW.alike hK, hD⟩, hS.F ht⟩) hS.2.2 d_RU_add_81
  · refine lv_aload_n hx hb d_RU_add_13 rfl (lv_at hl 0 rfl) ?_
    refine lv_aload_n hx hb d_RU_add_14 rfl (lv_at hl 0 rfl) ?_
    refine lv_aload_n hx hb d_RU_add_15 rfl (lv_at hl 0 rfl) ?_
    refine z_get (ci := 4) (C := R_RU) (T := T_RU) (N := 7) (v := .int (iI (M (4) 5))) hx hb hg in_RU hown hK hP (4) (by decide) rfl rfl 5 (by decide) (hg _ (List.mem_append_right _ (List.mem_append_right _ (List.mem_append_right _ (List.mem_append_left _ (List.mem_of_getElem? (i := 34) rfl)))))) (fun _ h9 => h9) rfl d_RU_add_16 ?_
    refine ro_V (As := [.int (iI (M (4) 5))]) (rest := [.ref (ad (4))]) (z := p_ew (p_tabs M i n) (p_rul M) (M 4 5)) ⟨hx, hb, hml, hown, hg⟩ (c_endWith l i n (M 4 5) hp ht hr0 (by have := hr0.2.2.1; omega)) (cwV 1 hg (gt_V (List.mem_append_right _ (List.mem_append_right _ (List.mem_append_right _ (List.mem_append_right _ (List.mem_append_right _ (List.mem_append_right _ (List.mem_append_right _ (List.mem_append_left _ (List.mem_of_getElem? (i := 13) rfl))))))))) (List.mem_append_right _ (List.mem_append_right _ (List.mem_append_right _ (List.mem_append_right _ (List.mem_append_right _ (List.mem_append_right _ (List.mem_append_right _ (List.mem_append_left _ (List.mem_of_getElem? (i := 14) rfl))))))))) (List.mem_append_left _ (List.mem_of_getElem? (i := 12) rfl)) (List.mem_append_right _ (List.mem_append_left _ (List.mem_of_getElem? (i := 7) rfl))) (List.mem_append_right _ (List.mem_append_right _ (List.mem_append_right _ (List.mem_append_right _ (List.mem_append_right _ (List.mem_append_right _ (List.mem_append_right _ (List.mem_append_left _ (List.mem_of_getElem? (i := 15) rfl)))))))))) rfl rfl rfl (by decide +kernel) ⟨Nat.le_of_ble_eq_true rfl, Nat.le_of_ble_eq_true rfl⟩) hK hP (va_recv hK hP (ci := 4) (q0 := 4) rfl (wl_atE (by decide) rfl)) rfl hl.1 rfl (Nat.le_of_ble_eq_true rfl) d_RU_add_19 ⟨Nat.zero_le _, Nat.zero_le _⟩ ?_
    refine rw_Vv (As := [.int (iI (p_ew (p_tabs M i n) (p_rul M) (M 4 5)))]) (rest := []) (w' := (pg_w ad cs (some i) (rset M (M 4 3, p_ew (p_tabs M i n) (p_rul M) (M 4 5), 0, 0)))) ⟨hx, hb, hml, hown, hg⟩ (c_beginStretch l _ (p_ew (p_tabs M i n) (p_rul M) (M 4 5))) (cwV 1 hg (gt_V (List.mem_append_right _ (List.mem_append_right _ (List.mem_append_right _ (List.mem_append_right _ (List.mem_append_right _ (List.mem_append_right _ (List.mem_append_right _ (List.mem_append_left _ (List.mem_of_getElem? (i := 6) rfl))))))))) (List.mem_append_right _ (List.mem_append_right _ (List.mem_append_right _ (List.mem_append_right _ (List.mem_append_right _ (List.mem_append_right _ (List.mem_append_right _ (List.mem_append_left _ (List.mem_of_getElem? (i := 7) rfl))))))))) (List.mem_append_left _ (List.mem_of_getElem? (i := 11) rfl)) (List.mem_append_right _ (List.mem_append_left _ (List.mem_of_getElem? (i := 7) rfl))) (List.mem_append_right _ (List.mem_append_right _ (List.mem_append_right _ (List.mem_append_right _ (List.mem_append_right _ (List.mem_append_right _ (List.mem_append_right _ (List.mem_append_left _ (List.mem_of_getElem? (i := 8) rfl)))))))))) rfl rfl rfl (by decide +kernel) ⟨Nat.le_of_ble_eq_true rfl, Nat.le_of_ble_eq_true rfl⟩) hK hP hD hS hA (va_recv hK hP (ci := 4) (q0 := 4) rfl (wl_atE (by decide) rfl)) rfl hl.1 rfl (Nat.le_of_ble_eq_true rfl) d_RU_add_22 ⟨Nat.zero_le _, Nat.zero_le _⟩ (fun H locs hP hD hS => ?_)
    obtain ⟨M_3, eM_3⟩ : ∃ q_, q_ = rset M (M 4 3, p_ew (p_tabs M i n) (p_rul M) (M 4 5), 0, 0) := ⟨_, rfl⟩
    have hP : va_P D vwCl (pg_w ad cs (some i) M_3) H := by rw [eM_3]; exact hP
    have hD : va_D (va_A (pg_w ad cs (some i) M) s.heap.size) (pg_w ad cs (some i) M_3) := by rw [eM_3]; exact hD
    refine lv_aload_n hx hb d_RU_add_25 rfl (lv_at hl 0 rfl) ?_
    refine z_iconst hx hb (z := 1) d_RU_add_26 ?_
    refine z_put (ci := 4) (C := R_RU) (T := T_RU) (N := 7) (v := .int (iI (1))) (ty := .boolean) (ce' := (pg_ce ad cs (some i))) (r := va_up (M_3 (4)) 3 (1)) hx hb hg in_RU ty_RU tk_RU nm_RU hown hK hP hD hS (4) (by decide) rfl rfl 3 (by decide) (hg _ (List.mem_append_right _ (List.mem_append_right _ (List.mem_append_right _ (List.mem_append_left _ (List.mem_of_getElem? (i := 32) rfl)))))) (fun _ h9 => h9) rfl (by decide +kernel) rfl rfl (Nat.le_of_ble_eq_true rfl) (fun _ _ => rfl) rfl d_RU_add_27 (fun H locs hP hD hS => ?_)
    obtain ⟨M_4, eM_4⟩ : ∃ q_, q_ = mset M_3 (4) (3) (1) := ⟨_, rfl⟩
    have hP : va_P D vwCl (pg_w ad cs (some i) M_4) H := by rw [eM_4]; exact hP
    have hD : va_D (va_A (pg_w ad cs (some i) M) s.heap.size) (pg_w ad cs (some i) M_4) := by rw [eM_4]; exact hD
    have hM : M_4 = rset M (p_add (M 7) (M 8) (p_tabs M i n) (p_rul M) k) := by unfold p_add; rw [if_pos (by omega)]; simp only [eM_4, eM_3, m4_3, m4_4, m4_5, m4_6, rset_rset, rv3, rv4, rv5, rv6, p_rul]
    have eW : pg_w ad cs (some i) (M_4) = pg_w ad cs (some i) (rset M (p_add (M 7) (M 8) (p_tabs M i n) (p_rul M) k)) := by rw [hM]
    have hP := Eq.mp (congrArg (fun q => va_P D vwCl q _) eW) hP
    have hD := Eq.mp (congrArg (va_D _) eW) hD
    exact W.vret hx hb hr (fun t ht hW => ⟨⟨(), rfl, trivial, by rw [ht]; exact hP, va_K.moved hW.alike hK, hD⟩, hS.F ht⟩) hS.2.2 d_RU_add_30
set_option maxHeartbeats 4000000 in
set_option maxRecDepth 100000 in
theorem lp_lineBehind {p : Program} {l : Launch} {e : Env} {s : State} {m : MethodId} {args : Array Value} {below : List Frame} {meth : Method} {c : Code} {Q : State → Prop} {A : Nat → Prop} {H0 : Heap} {D : va_G} {ad : Nat → Nat} {cs : pg_C} {M : Nat → Nat → Int} (hx : p.tables.exec = Jvm.exec) (hb : c.code = b_LN_lineBehind) (hml : c.maxLocals = 8) (hg : ∀ w ∈ gt, w.before args s = true) (hown : s.vm.findClass R_LN = some m.cls) (hK : va_K D vwCl (pg_tys cs) s) (hA : ∀ q, H0.size ≤ q → A q) (i n a b : Nat) (x : Int) (hb6 : b ≤ 600) (ha : a ≤ b) (hp : wfP M i n) (ht : wfT M) (hbe : M (29 + 4 * i) 5 = ((b : Nat) : Int)) (hsh : 0 ≤ M (30 + 4 * i) 1 ∧ M (30 + 4 * i) 1 ≤ 5000) (res : Nat × p_R) (kk : ∀ (H : Heap) (locs : List Loc) (ls : Array Slot), va_P D vwCl (pg_w ad cs (some i) (rset M res.2)) H → va_D A (pg_w ad cs (some i) (rset M res.2)) → va_S A H0 H locs → lv_has ls 8 [(5, .int (iI ((res.1 : Nat) : Int)))] → W p l e ({ frames := 5, cells := 0, slots := 0, locals := 114 } : Room) s m args below meth c H locs 0 0 Q (F0 m 139 ls [])) : ∀ (f k bb : Nat) (r : p_R) (B : Int), a ≤ k → k + f = b → bb ≤ 600 → wfr r B → B + 60000 * ((f : Nat) : Int) ≤ 39000000 → p_lx (M 7) (M 8) (p_tabs M i n) (M 2 0 - M (30 + 4 * i) 1) a b f k bb r = res → ∀ (H : Heap) (locs : List Loc) (ls : Array Slot), va_P D vwCl (pg_w ad cs (some i) (rset M r)) H → va_D A (pg_w ad cs (some i) (rset M r)) → va_S A H0 H locs → lv_has ls 8 [(6, .int (iI (((k : Nat) : Int)))), (5, .int (iI (((bb : Nat) : Int)))), (4, .int (iI ((M 2 0 - M (30 + 4 * i) 1)))), (0, .ref (ad (3))), (1, .ref (ad (29 + 4 * i))), (2, .int (iI (((a : Nat) : Int)))), (3, .int (iI (x)))] → W p l e ({ frames := 5, cells := 0, slots := 0, locals := 114 } : Room) s m args below meth c H locs 0 0 Q (F0 m 31 ls []) := by
  obtain ⟨hi, hn, hs, hz, hz2⟩ := id hp
  have hst := ht.2.2.2.2.2
  have hwi := ht.2.2.2.1
  intro f
  induction f with
  | zero =>
    intro k bb r B hak hkf hb6b hwr hB he H locs ls hP hD hS hl
    obtain ⟨Mr, eMr⟩ : ∃ q_, q_ = rset M r := ⟨_, rfl⟩
    rw [← eMr] at hP hD
    have f29 : Mr (29 + 4 * i) = M (29 + 4 * i) := by rw [eMr]; exact rset_ne (by omega)
    have hbe2 : Mr (29 + 4 * i) 5 = ((b : Nat) : Int) := by rw [f29]; exact hbe
    refine lv_iload hx hb d_LN_lineBehind_31 (lv_at hl 0 rfl) ?_
    refine lv_aload_n hx hb d_LN_lineBehind_33 rfl (lv_at hl 4 rfl) ?_
    refine z_get (ci := 6) (C := R_PA) (T := T_PA) (N := 6) (v := .int (iI (Mr (29 + 4 * i) 5))) hx hb hg in_PA hown hK hP (29 + 4 * i) (by omega) (pg_par _ _ _ _ _) rfl 5 (by decide) (hg _ (List.mem_append_right _ (List.mem_append_right _ (List.mem_append_left _ (List.mem_of_getElem? (i := 8) rfl))))) (fun _ h9 => h9) rfl d_LN_lineBehind_34 ?_
    refine z_icmp_ge hx hb (tgt := 139) d_LN_lineBehind_37 (by decide) ⟨by omega, by omega⟩ ⟨by omega, by omega⟩ (fun c_37 => ?_) (fun c_37 => ?_)
    · have he : (bb, r) = res := he
      subst he
      rw [eMr] at hP hD
      exact kk H locs ls hP hD hS (lv_sub hl [1] rfl)
    · exact absurd c_37 (by omega)
  | succ f ih =>
    intro k bb r B hak hkf hb6b hwr hB he H locs ls hP hD hS hl
    obtain ⟨Mr, eMr⟩ : ∃ q_, q_ = rset M r := ⟨_, rfl⟩
    rw [← eMr] at hP hD
    have f29 : Mr (29 + 4 * i) = M (29 + 4 * i) := by rw [eMr]; exact rset_ne (by omega)
    have hbe2 : Mr (29 + 4 * i) 5 = ((b : Nat) : Int) := by rw [f29]; exact hbe
    refine lv_iload hx hb d_LN_lineBehind_31 (lv_at hl 0 rfl) ?_
    refine lv_aload_n hx hb d_LN_lineBehind_33 rfl (lv_at hl 4 rfl) ?_
    refine z_get (ci := 6) (C := R_PA) (T := T_PA) (N := 6) (v := .int (iI (Mr (29 + 4 * i) 5))) hx hb hg in_PA hown hK hP (29 + 4 * i) (by omega) (pg_par _ _ _ _ _) rfl 5 (by decide) (hg _ (List.mem_append_right _ (List.mem_append_right _ (List.mem_append_left _ (List.mem_of_getElem? (i := 8) rfl))))) (fun _ h9 => h9) rfl d_LN_lineBehind_34 ?_
    refine z_icmp_ge hx hb (tgt := 139) d_LN_lineBehind_37 (by decide) ⟨by omega, by omega⟩ ⟨by omega, by omega⟩ (fun c_37 => ?_) (fun c_37 => ?_)
    · exact absurd c_37 (by omega)
    · refine lv_aload_n hx hb d_LN_lineBehind_40 rfl (lv_at hl 3 rfl) ?_
      refine z_get (ci := 3) (C := R_LN) (T := T_LN) (N := 6) (v := .ref (ad (4))) hx hb hg in_LN hown hK hP (3) (by decide) rfl rfl 5 (by decide) (hg _ (List.mem_append_right _ (List.mem_append_right _ (List.mem_append_right _ (List.mem_append_right _ (List.mem_append_left _ (List.mem_of_getElem? (i := 13) rfl))))))) (fun _ h9 => h9) rfl d_LN_lineBehind_41 ?_
      refine lv_iload hx hb d_LN_lineBehind_44 (lv_at hl 0 rfl) ?_
      refine rw_Vv (As := [.int (iI (((k : Nat) : Int)))]) (rest := []) (w' := (pg_w ad cs (some i) (rset Mr (p_add (Mr 7) (Mr 8) (p_tabs Mr i n) (p_rul Mr) k)))) ⟨hx, hb, hml, hown, hg⟩ (c_add l _ i n k (by omega) (by rw [eMr]; exact rset_wfP hp) (by rw [eMr]; exact rset_wfT ht) (by rw [eMr]; exact rset_wfR hwr (by omega))) (cwV 1 hg (gt_V (List.mem_append_right _ (List.mem_append_right _ (List.mem_append_right _ (List.mem_append_right _ (List.mem_append_right _ (List.mem_append_right _ (List.mem_append_right _ (List.mem_append_left _ (List.mem_of_getElem? (i := 9) rfl))))))))) (List.mem_append_right _ (List.mem_append_right _ (List.mem_append_right _ (List.mem_append_right _ (List.mem_append_right _ (List.mem_append_right _ (List.mem_append_right _ (List.mem_append_left _ (List.mem_of_getElem? (i := 10) rfl))))))))) (List.mem_append_right _ (List.mem_append_right _ (List.mem_append_right _ (List.mem_append_right _ (List.mem_append_right _ (List.mem_append_right _ (List.mem_append_right _ (List.mem_append_left _ (List.mem_of_getElem? (i := 11) rfl))))))))) (List.mem_append_right _ (List.mem_append_left _ (List.mem_of_getElem? (i := 7) rfl))) (List.mem_append_right _ (List.mem_append_right _ (List.mem_append_right _ (List.mem_append_right _ (List.mem_append_right _ (List.mem_append_right _ (List.mem_append_right _ (List.mem_append_left _ (List.mem_of_getElem? (i := 12) rfl)))))))))) rfl rfl rfl (by decide +kernel) ⟨Nat.le_of_ble_eq_true rfl, Nat.le_of_ble_eq_true rfl⟩) hK hP hD hS hA (va_recv hK hP (ci := 4) (q0 := 4) rfl (wl_atE (by decide) rfl)) rfl hl.1 rfl (Nat.le_of_ble_eq_true rfl) d_LN_lineBehind_46 ⟨Nat.zero_le _, Nat.zero_le _⟩ (fun H locs hP hD hS => ?_)
      obtain ⟨M_1, eM_1⟩ : ∃ q_, q_ = rset Mr (p_add (Mr 7) (Mr 8) (p_tabs Mr i n) (p_rul Mr) k) := ⟨_, rfl⟩
      have hP : va_P D vwCl (pg_w ad cs (some i) M_1) H := by rw [eM_1]; exact hP
      have hD : va_D A (pg_w ad cs (some i) M_1) := by rw [eM_1]; exact hD
      obtain ⟨r2, er2⟩ : ∃ q_, q_ = p_add (M 7) (M 8) (p_tabs M i n) r k := ⟨_, rfl⟩
      have hM1 : M_1 = rset M r2 := by rw [eM_1, er2, eMr, rset_rset, rset_ne (by omega), rset_ne (by omega), rset_tabs, rset_rul]
      have hwr2 : wfr r2 (B + 60000) := by rw [er2]; exact p_add_wf hwr (ht.2.1 k) hst hz
      have g7 : M_1 7 = M 7 := by rw [hM1]; exact rset_ne (by omega)
      have g8 : M_1 8 = M 8 := by rw [hM1]; exact rset_ne (by omega)
      have gt9 : p_tabs M_1 i n = p_tabs M i n := by rw [hM1]; exact rset_tabs _ _ _ _
      have gr : p_rul M_1 = r2 := by rw [hM1]; exact rset_rul _ _
      have hp1 : wfP M_1 i n := by rw [hM1]; exact rset_wfP hp
      have ht1 : wfT M_1 := by rw [hM1]; exact rset_wfT ht
      have hr1 : wfR M_1 := by rw [hM1]; exact rset_wfR hwr2 (by omega)
      have f29 : M_1 (29 + 4 * i) = M (29 + 4 * i) := by rw [hM1]; exact rset_ne (by omega)
      have hbe3 : M_1 (29 + 4 * i) 5 = ((b : Nat) : Int) := by rw [f29]; exact hbe
      have hbr : p_brk (M_1 7) b k = p_brk (M 7) b k := by rw [g7]
      have hen : p_endl (M_1 7) k = p_endl (M 7) k := by rw [g7]
      have heb : p_endb (M_1 7) (M_1 8) (p_tabs M_1 i n) (p_rul M_1) k = p_endb (M 7) (M 8) (p_tabs M i n) r2 k := by rw [g7, g8, gt9, gr]
      have hle : p_least (p_tabs M_1 i n) (p_rul M_1) = p_least (p_tabs M i n) r2 := by rw [gt9, gr]
      have hle1 := p_leastb (t := p_tabs M i n) hwr2 hst hz
      have heb1 := p_endbb (kd := M 7) (wd := M 8) (k := k) (t := p_tabs M i n) hwr2 (ht.2.1 k) hst hz
      refine lv_aload_n hx hb d_LN_lineBehind_49 rfl (lv_at hl 3 rfl) ?_
      refine z_get (ci := 3) (C := R_LN) (T := T_LN) (N := 6) (v := .ref (ad (1))) hx hb hg in_LN hown hK hP (3) (by decide) rfl rfl 3 (by decide) (hg _ (List.mem_append_right _ (List.mem_append_right _ (List.mem_append_right _ (List.mem_append_right _ (List.mem_append_left _ (List.mem_of_getElem? (i := 11) rfl))))))) (fun _ h9 => h9) rfl d_LN_lineBehind_50 ?_
      refine lv_iload hx hb d_LN_lineBehind_53 (lv_at hl 0 rfl) ?_
      refine lv_aload_n hx hb d_LN_lineBehind_55 rfl (lv_at hl 4 rfl) ?_
      refine ro_V (As := [.int (iI (((k : Nat) : Int))), .ref (ad (29 + 4 * i))]) (rest := []) (z := bz (p_brk (M_1 7) b k) inferInstance) ⟨hx, hb, hml, hown, hg⟩ (c_isBreakBehind l i b k hi (by omega) hb6 hbe3 (zb_7 ht1)) (cwV 2 hg (gt_V (List.mem_append_right _ (List.mem_append_right _ (List.mem_append_right _ (List.mem_append_right _ (List.mem_append_right _ (List.mem_append_right _ (List.mem_append_right _ (List.mem_append_left _ (List.mem_of_getElem? (i := 19) rfl))))))))) (List.mem_append_right _ (List.mem_append_right _ (List.mem_append_right _ (List.mem_append_right _ (List.mem_append_right _ (List.mem_append_right _ (List.mem_append_right _ (List.mem_append_left _ (List.mem_of_getElem? (i := 20) rfl))))))))) (List.mem_append_right _ (List.mem_append_right _ (List.mem_append_right _ (List.mem_append_right _ (List.mem_append_right _ (List.mem_append_right _ (List.mem_append_right _ (List.mem_append_left _ (List.mem_of_getElem? (i := 21) rfl))))))))) (List.mem_append_right _ (List.mem_append_left _ (List.mem_of_getElem? (i := 3) rfl))) (List.mem_append_right _ (List.mem_append_right _ (List.mem_append_right _ (List.mem_append_right _ (List.mem_append_right _ (List.mem_append_right _ (List.mem_append_right _ (List.mem_append_left _ (List.mem_of_getElem? (i := 22) rfl)))))))))) rfl rfl rfl (by decide +kernel) ⟨Nat.le_of_ble_eq_true rfl, Nat.le_of_ble_eq_true rfl⟩) hK hP (va_recv hK hP (ci := 1) (q0 := 1) rfl (wl_atE (by decide) rfl)) rfl hl.1 rfl (Nat.le_of_ble_eq_true rfl) d_LN_lineBehind_56 ⟨Nat.zero_le _, Nat.zero_le _⟩ ?_
      refine z_ifb_eq hx hb (tgt := 88) d_LN_lineBehind_59 (by decide) (fun c_59 => ?_) (fun c_59 => ?_)
      · refine lv_iload hx hb d_LN_lineBehind_88 (lv_at hl 1 rfl) ?_
        refine lv_iload_n hx hb d_LN_lineBehind_90 rfl (lv_at hl 5 rfl) ?_
        refine z_icmp_le hx hb (tgt := 110) d_LN_lineBehind_91 (by decide) ⟨by omega, by omega⟩ ⟨by omega, by omega⟩ (fun c_91 => ?_) (fun c_91 => ?_)
        · refine z_iconst hx hb (z := 0) d_LN_lineBehind_110 ?_
          refine lv_istore (lv' := [(7, .int (iI (0))), (6, .int (iI (((k : Nat) : Int)))), (5, .int (iI (((bb : Nat) : Int)))), (4, .int (iI ((M 2 0 - M (30 + 4 * i) 1)))), (0, .ref (ad (3))), (1, .ref (ad (29 + 4 * i))), (2, .int (iI (((a : Nat) : Int)))), (3, .int (iI (x)))]) hx hb d_LN_lineBehind_111 hl (by decide) rfl (fun ls hl => ?_)
          refine lv_iload hx hb d_LN_lineBehind_113 (lv_at hl 0 rfl) ?_
          refine z_if_ne hx hb (tgt := 139) d_LN_lineBehind_115 (by decide) ⟨by decide, by decide⟩ (fun c_115 => ?_) (fun c_115 => ?_)
          · exact absurd c_115 (by decide)
          · refine lv_aload_n hx hb d_LN_lineBehind_118 rfl (lv_at hl 4 rfl) ?_
            refine z_get (ci := 3) (C := R_LN) (T := T_LN) (N := 6) (v := .ref (ad (1))) hx hb hg in_LN hown hK hP (3) (by decide) rfl rfl 3 (by decide) (hg _ (List.mem_append_right _ (List.mem_append_right _ (List.mem_append_right _ (List.mem_append_right _ (List.mem_append_left _ (List.mem_of_getElem? (i := 11) rfl))))))) (fun _ h9 => h9) rfl d_LN_lineBehind_119 ?_
            refine lv_iload hx hb d_LN_lineBehind_122 (lv_at hl 1 rfl) ?_
            refine ro_V (As := [.int (iI (((k : Nat) : Int)))]) (rest := []) (z := bz (p_endl (M_1 7) k) inferInstance) ⟨hx, hb, hml, hown, hg⟩ (c_endsLine l k (by omega) (zb_7 ht1)) (cwV 1 hg (gt_V (List.mem_append_right _ (List.mem_append_right _ (List.mem_append_right _ (List.mem_append_right _ (List.mem_append_right _ (List.mem_append_right _ (List.mem_append_left _ (List.mem_of_getElem? (i := 32) rfl)))))))) (List.mem_append_right _ (List.mem_append_right _ (List.mem_append_right _ (List.mem_append_right _ (List.mem_append_right _ (List.mem_append_left _ (List.mem_of_getElem? (i := 38) rfl))))))) (List.mem_append_right _ (List.mem_append_right _ (List.mem_append_right _ (List.mem_append_right _ (List.mem_append_right _ (List.mem_append_left _ (List.mem_of_getElem? (i := 39) rfl))))))) (List.mem_append_right _ (List.mem_append_left _ (List.mem_of_getElem? (i := 3) rfl))) (List.mem_append_right _ (List.mem_append_right _ (List.mem_append_right _ (List.mem_append_right _ (List.mem_append_right _ (List.mem_append_right _ (List.mem_append_left _ (List.mem_of_getElem? (i := 0) rfl))))))))) rfl rfl rfl (by decide +kernel) ⟨Nat.le_of_ble_eq_true rfl, Nat.le_of_ble_eq_true rfl⟩) hK hP (va_recv hK hP (ci := 1) (q0 := 1) rfl (wl_atE (by decide) rfl)) rfl hl.1 rfl (Nat.le_of_ble_eq_true rfl) d_LN_lineBehind_124 ⟨Nat.zero_le _, Nat.zero_le _⟩ ?_
            refine z_ifb_eq hx hb (tgt := 133) d_LN_lineBehind_127 (by decide) (fun c_127 => ?_) (fun c_127 => ?_)
            · refine z_iinc (v := ((k + 1 : Nat) : Int)) (lv' := [(6, .int (iI (((k + 1 : Nat) : Int)))), (7, .int (iI (0))), (5, .int (iI (((bb : Nat) : Int)))), (4, .int (iI ((M 2 0 - M (30 + 4 * i) 1)))), (0, .ref (ad (3))), (1, .ref (ad (29 + 4 * i))), (2, .int (iI (((a : Nat) : Int)))), (3, .int (iI (x)))]) hx hb d_LN_lineBehind_133 hl (k := 1) rfl (by omega) (by decide) rfl (fun ls hl => ?_)
              refine lv_goto (tgt := 31) hx hb d_LN_lineBehind_136 (by decide) ?_
              have hnb : bb = p_nb (M 7) (M 8) (p_tabs M i n) (M 2 0 - M (30 + 4 * i) 1) a b k bb r2 := by unfold p_nb; rw [if_neg (fun h => c_59 (hbr ▸ h.1))]
              have step : p_lx (M 7) (M 8) (p_tabs M i n) (M 2 0 - M (30 + 4 * i) 1) a b (f + 1) k bb r = if (a < bb ∧ M 2 0 - M (30 + 4 * i) 1 < p_least (p_tabs M i n) r2) ∨ p_endl (M 7) k then (bb, r2) else p_lx (M 7) (M 8) (p_tabs M i n) (M 2 0 - M (30 + 4 * i) 1) a b f (k + 1) (bb) r2 := by conv => lhs; unfold p_lx; rw [if_pos (by omega), ← er2, ← hnb]
              rw [if_neg (fun h => h.elim (fun h => by omega) (fun h => c_127 (hen ▸ h))), he] at step
              rw [hM1] at hP hD
              exact ih (k + 1) (bb) r2 (B + 60000) (by omega) (by omega) (by omega) hwr2 (by omega) step.symm H locs ls hP hD hS (lv_sub hl [0, 2, 3, 4, 5, 6, 7] rfl)
            · refine lv_goto (tgt := 139) hx hb d_LN_lineBehind_130 (by decide) ?_
              have hnb : bb = p_nb (M 7) (M 8) (p_tabs M i n) (M 2 0 - M (30 + 4 * i) 1) a b k bb r2 := by unfold p_nb; rw [if_neg (fun h => c_59 (hbr ▸ h.1))]
              have step : p_lx (M 7) (M 8) (p_tabs M i n) (M 2 0 - M (30 + 4 * i) 1) a b (f + 1) k bb r = if (a < bb ∧ M 2 0 - M (30 + 4 * i) 1 < p_least (p_tabs M i n) r2) ∨ p_endl (M 7) k then (bb, r2) else p_lx (M 7) (M 8) (p_tabs M i n) (M 2 0 - M (30 + 4 * i) 1) a b f (k + 1) (bb) r2 := by conv => lhs; unfold p_lx; rw [if_pos (by omega), ← er2, ← hnb]
              rw [if_pos (Or.inr (hen ▸ c_127)), he] at step
              rw [hM1] at hP hD
              subst step
              exact kk H locs ls hP hD hS (lv_sub hl [2] rfl)
        · refine lv_aload_n hx hb d_LN_lineBehind_94 rfl (lv_at hl 3 rfl) ?_
          refine z_get (ci := 3) (C := R_LN) (T := T_LN) (N := 6) (v := .ref (ad (4))) hx hb hg in_LN hown hK hP (3) (by decide) rfl rfl 5 (by decide) (hg _ (List.mem_append_right _ (List.mem_append_right _ (List.mem_append_right _ (List.mem_append_right _ (List.mem_append_left _ (List.mem_of_getElem? (i := 13) rfl))))))) (fun _ h9 => h9) rfl d_LN_lineBehind_95 ?_
          refine ro_V (As := []) (rest := []) (z := p_least (p_tabs M i n) r2) ⟨hx, hb, hml, hown, hg⟩ (hle ▸ c_leastEnd l i n hp1 ht1 hr1) (cwV 0 hg (gt_V (List.mem_append_right _ (List.mem_append_right _ (List.mem_append_right _ (List.mem_append_right _ (List.mem_append_right _ (List.mem_append_right _ (List.mem_append_right _ (List.mem_append_left _ (List.mem_of_getElem? (i := 31) rfl))))))))) (List.mem_append_right _ (List.mem_append_right _ (List.mem_append_right _ (List.mem_append_right _ (List.mem_append_right _ (List.mem_append_right _ (List.mem_append_right _ (List.mem_append_left _ (List.mem_of_getElem? (i := 28) rfl))))))))) (List.mem_append_right _ (List.mem_append_right _ (List.mem_append_right _ (List.mem_append_right _ (List.mem_append_right _ (List.mem_append_right _ (List.mem_append_right _ (List.mem_append_left _ (List.mem_of_getElem? (i := 29) rfl))))))))) (List.mem_append_right _ (List.mem_append_left _ (List.mem_of_getElem? (i := 7) rfl))) (List.mem_append_right _ (List.mem_append_right _ (List.mem_append_right _ (List.mem_append_right _ (List.mem_append_right _ (List.mem_append_right _ (List.mem_append_right _ (List.mem_append_left _ (List.mem_of_getElem? (i := 30) rfl)))))))))) rfl rfl rfl (by decide +kernel) ⟨Nat.le_of_ble_eq_true rfl, Nat.le_of_ble_eq_true rfl⟩) hK hP (va_recv hK hP (ci := 4) (q0 := 4) rfl (wl_atE (by decide) rfl)) rfl hl.1 rfl (Nat.le_of_ble_eq_true rfl) d_LN_lineBehind_98 ⟨Nat.zero_le _, Nat.zero_le _⟩ ?_
          refine lv_iload hx hb d_LN_lineBehind_101 (lv_at hl 2 rfl) ?_
          refine z_icmp_le hx hb (tgt := 110) d_LN_lineBehind_103 (by decide) ⟨by omega, by omega⟩ ⟨by omega, by omega⟩ (fun c_103 => ?_) (fun c_103 => ?_)
          · refine z_iconst hx hb (z := 0) d_LN_lineBehind_110 ?_
            refine lv_istore (lv' := [(7, .int (iI (0))), (6, .int (iI (((k : Nat) : Int)))), (5, .int (iI (((bb : Nat) : Int)))), (4, .int (iI ((M 2 0 - M (30 + 4 * i) 1)))), (0, .ref (ad (3))), (1, .ref (ad (29 + 4 * i))), (2, .int (iI (((a : Nat) : Int)))), (3, .int (iI (x)))]) hx hb d_LN_lineBehind_111 hl (by decide) rfl (fun ls hl => ?_)
            refine lv_iload hx hb d_LN_lineBehind_113 (lv_at hl 0 rfl) ?_
            refine z_if_ne hx hb (tgt := 139) d_LN_lineBehind_115 (by decide) ⟨by decide, by decide⟩ (fun c_115 => ?_) (fun c_115 => ?_)
            · exact absurd c_115 (by decide)
            · refine lv_aload_n hx hb d_LN_lineBehind_118 rfl (lv_at hl 4 rfl) ?_
              refine z_get (ci := 3) (C := R_LN) (T := T_LN) (N := 6) (v := .ref (ad (1))) hx hb hg in_LN hown hK hP (3) (by decide) rfl rfl 3 (by decide) (hg _ (List.mem_append_right _ (List.mem_append_right _ (List.mem_append_right _ (List.mem_append_right _ (List.mem_append_left _ (List.mem_of_getElem? (i := 11) rfl))))))) (fun _ h9 => h9) rfl d_LN_lineBehind_119 ?_
              refine lv_iload hx hb d_LN_lineBehind_122 (lv_at hl 1 rfl) ?_
              refine ro_V (As := [.int (iI (((k : Nat) : Int)))]) (rest := []) (z := bz (p_endl (M_1 7) k) inferInstance) ⟨hx, hb, hml, hown, hg⟩ (c_endsLine l k (by omega) (zb_7 ht1)) (cwV 1 hg (gt_V (List.mem_append_right _ (List.mem_append_right _ (List.mem_append_right _ (List.mem_append_right _ (List.mem_append_right _ (List.mem_append_right _ (List.mem_append_left _ (List.mem_of_getElem? (i := 32) rfl)))))))) (List.mem_append_right _ (List.mem_append_right _ (List.mem_append_right _ (List.mem_append_right _ (List.mem_append_right _ (List.mem_append_left _ (List.mem_of_getElem? (i := 38) rfl))))))) (List.mem_append_right _ (List.mem_append_right _ (List.mem_append_right _ (List.mem_append_right _ (List.mem_append_right _ (List.mem_append_left _ (List.mem_of_getElem? (i := 39) rfl))))))) (List.mem_append_right _ (List.mem_append_left _ (List.mem_of_getElem? (i := 3) rfl))) (List.mem_append_right _ (List.mem_append_right _ (List.mem_append_right _ (List.mem_append_right _ (List.mem_append_right _ (List.mem_append_right _ (List.mem_append_left _ (List.mem_of_getElem? (i := 0) rfl))))))))) rfl rfl rfl (by decide +kernel) ⟨Nat.le_of_ble_eq_true rfl, Nat.le_of_ble_eq_true rfl⟩) hK hP (va_recv hK hP (ci := 1) (q0 := 1) rfl (wl_atE (by decide) rfl)) rfl hl.1 rfl (Nat.le_of_ble_eq_true rfl) d_LN_lineBehind_124 ⟨Nat.zero_le _, Nat.zero_le _⟩ ?_
              refine z_ifb_eq hx hb (tgt := 133) d_LN_lineBehind_127 (by decide) (fun c_127 => ?_) (fun c_127 => ?_)
              · refine z_iinc (v := ((k + 1 : Nat) : Int)) (lv' := [(6, .int (iI (((k + 1 : Nat) : Int)))), (7, .int (iI (0))), (5, .int (iI (((bb : Nat) : Int)))), (4, .int (iI ((M 2 0 - M (30 + 4 * i) 1)))), (0, .ref (ad (3))), (1, .ref (ad (29 + 4 * i))), (2, .int (iI (((a : Nat) : Int)))), (3, .int (iI (x)))]) hx hb d_LN_lineBehind_133 hl (k := 1) rfl (by omega) (by decide) rfl (fun ls hl => ?_)
                refine lv_goto (tgt := 31) hx hb d_LN_lineBehind_136 (by decide) ?_
                have hnb : bb = p_nb (M 7) (M 8) (p_tabs M i n) (M 2 0 - M (30 + 4 * i) 1) a b k bb r2 := by unfold p_nb; rw [if_neg (fun h => c_59 (hbr ▸ h.1))]
                have step : p_lx (M 7) (M 8) (p_tabs M i n) (M 2 0 - M (30 + 4 * i) 1) a b (f + 1) k bb r = if (a < bb ∧ M 2 0 - M (30 + 4 * i) 1 < p_least (p_tabs M i n) r2) ∨ p_endl (M 7) k then (bb, r2) else p_lx (M 7) (M 8) (p_tabs M i n) (M 2 0 - M (30 + 4 * i) 1) a b f (k + 1) (bb) r2 := by conv => lhs; unfold p_lx; rw [if_pos (by omega), ← er2, ← hnb]
                rw [if_neg (fun h => h.elim (fun h => by omega) (fun h => c_127 (hen ▸ h))), he] at step
                rw [hM1] at hP hD
                exact ih (k + 1) (bb) r2 (B + 60000) (by omega) (by omega) (by omega) hwr2 (by omega) step.symm H locs ls hP hD hS (lv_sub hl [0, 2, 3, 4, 5, 6, 7] rfl)
              · refine lv_goto (tgt := 139) hx hb d_LN_lineBehind_130 (by decide) ?_
                have hnb : bb = p_nb (M 7) (M 8) (p_tabs M i n) (M 2 0 - M (30 + 4 * i) 1) a b k bb r2 := by unfold p_nb; rw [if_neg (fun h => c_59 (hbr ▸ h.1))]
                have step : p_lx (M 7) (M 8) (p_tabs M i n) (M 2 0 - M (30 + 4 * i) 1) a b (f + 1) k bb r = if (a < bb ∧ M 2 0 - M (30 + 4 * i) 1 < p_least (p_tabs M i n) r2) ∨ p_endl (M 7) k then (bb, r2) else p_lx (M 7) (M 8) (p_tabs M i n) (M 2 0 - M (30 + 4 * i) 1) a b f (k + 1) (bb) r2 := by conv => lhs; unfold p_lx; rw [if_pos (by omega), ← er2, ← hnb]
                rw [if_pos (Or.inr (hen ▸ c_127)), he] at step
                rw [hM1] at hP hD
                subst step
                exact kk H locs ls hP hD hS (lv_sub hl [2] rfl)
          · refine z_iconst hx hb (z := 1) d_LN_lineBehind_106 ?_
            refine lv_goto (tgt := 111) hx hb d_LN_lineBehind_107 (by decide) ?_
            refine lv_istore (lv' := [(7, .int (iI (1))), (6, .int (iI (((k : Nat) : Int)))), (5, .int (iI (((bb : Nat) : Int)))), (4, .int (iI ((M 2 0 - M (30 + 4 * i) 1)))), (0, .ref (ad (3))), (1, .ref (ad (29 + 4 * i))), (2, .int (iI (((a : Nat) : Int)))), (3, .int (iI (x)))]) hx hb d_LN_lineBehind_111 hl (by decide) rfl (fun ls hl => ?_)
            refine lv_iload hx hb d_LN_lineBehind_113 (lv_at hl 0 rfl) ?_
            refine z_if_ne hx hb (tgt := 139) d_LN_lineBehind_115 (by decide) ⟨by decide, by decide⟩ (fun c_115 => ?_) (fun c_115 => ?_)
            · have hnb : bb = p_nb (M 7) (M 8) (p_tabs M i n) (M 2 0 - M (30 + 4 * i) 1) a b k bb r2 := by unfold p_nb; rw [if_neg (fun h => c_59 (hbr ▸ h.1))]
              have step : p_lx (M 7) (M 8) (p_tabs M i n) (M 2 0 - M (30 + 4 * i) 1) a b (f + 1) k bb r = if (a < bb ∧ M 2 0 - M (30 + 4 * i) 1 < p_least (p_tabs M i n) r2) ∨ p_endl (M 7) k then (bb, r2) else p_lx (M 7) (M 8) (p_tabs M i n) (M 2 0 - M (30 + 4 * i) 1) a b f (k + 1) (bb) r2 := by conv => lhs; unfold p_lx; rw [if_pos (by omega), ← er2, ← hnb]
              rw [if_pos (Or.inl ⟨by omega, by omega⟩), he] at step
              rw [hM1] at hP hD
              subst step
              exact kk H locs ls hP hD hS (lv_sub hl [2] rfl)
            · exact absurd c_115 (by decide)
      · refine lv_iload hx hb d_LN_lineBehind_62 (lv_at hl 1 rfl) ?_
        refine lv_iload_n hx hb d_LN_lineBehind_64 rfl (lv_at hl 5 rfl) ?_
        refine z_icmp_eq hx hb (tgt := 82) d_LN_lineBehind_65 (by decide) ⟨by omega, by omega⟩ ⟨by omega, by omega⟩ (fun c_65 => ?_) (fun c_65 => ?_)
        · refine lv_iload hx hb d_LN_lineBehind_82 (lv_at hl 0 rfl) ?_
          refine z_iconst hx hb (z := 1) d_LN_lineBehind_84 ?_
          refine z_iadd hx hb d_LN_lineBehind_85 (v := ((k + 1 : Nat) : Int)) (by omega) ?_
          refine lv_istore (lv' := [(5, .int (iI (((k + 1 : Nat) : Int)))), (6, .int (iI (((k : Nat) : Int)))), (4, .int (iI ((M 2 0 - M (30 + 4 * i) 1)))), (0, .ref (ad (3))), (1, .ref (ad (29 + 4 * i))), (2, .int (iI (((a : Nat) : Int)))), (3, .int (iI (x)))]) hx hb d_LN_lineBehind_86 hl (by decide) rfl (fun ls hl => ?_)
          refine lv_iload hx hb d_LN_lineBehind_88 (lv_at hl 0 rfl) ?_
          refine lv_iload_n hx hb d_LN_lineBehind_90 rfl (lv_at hl 5 rfl) ?_
          refine z_icmp_le hx hb (tgt := 110) d_LN_lineBehind_91 (by decide) ⟨by omega, by omega⟩ ⟨by omega, by omega⟩ (fun c_91 => ?_) (fun c_91 => ?_)
          · refine z_iconst hx hb (z := 0) d_LN_lineBehind_110 ?_
            refine lv_istore (lv' := [(7, .int (iI (0))), (5, .int (iI (((k + 1 : Nat) : Int)))), (6, .int (iI (((k : Nat) : Int)))), (4, .int (iI ((M 2 0 - M (30 + 4 * i) 1)))), (0, .ref (ad (3))), (1, .ref (ad (29 + 4 * i))), (2, .int (iI (((a : Nat) : Int)))), (3, .int (iI (x)))]) hx hb d_LN_lineBehind_111 hl (by decide) rfl (fun ls hl => ?_)
            refine lv_iload hx hb d_LN_lineBehind_113 (lv_at hl 0 rfl) ?_
            refine z_if_ne hx hb (tgt := 139) d_LN_lineBehind_115 (by decide) ⟨by decide, by decide⟩ (fun c_115 => ?_) (fun c_115 => ?_)
            · exact absurd c_115 (by decide)
            · refine lv_aload_n hx hb d_LN_lineBehind_118 rfl (lv_at hl 4 rfl) ?_
              refine z_get (ci := 3) (C := R_LN) (T := T_LN) (N := 6) (v := .ref (ad (1))) hx hb hg in_LN hown hK hP (3) (by decide) rfl rfl 3 (by decide) (hg _ (List.mem_append_right _ (List.mem_append_right _ (List.mem_append_right _ (List.mem_append_right _ (List.mem_append_left _ (List.mem_of_getElem? (i := 11) rfl))))))) (fun _ h9 => h9) rfl d_LN_lineBehind_119 ?_
              refine lv_iload hx hb d_LN_lineBehind_122 (lv_at hl 2 rfl) ?_
              refine ro_V (As := [.int (iI (((k : Nat) : Int)))]) (rest := []) (z := bz (p_endl (M_1 7) k) inferInstance) ⟨hx, hb, hml, hown, hg⟩ (c_endsLine l k (by omega) (zb_7 ht1)) (cwV 1 hg (gt_V (List.mem_append_right _ (List.mem_append_right _ (List.mem_append_right _ (List.mem_append_right _ (List.mem_append_right _ (List.mem_append_right _ (List.mem_append_left _ (List.mem_of_getElem? (i := 32) rfl)))))))) (List.mem_append_right _ (List.mem_append_right _ (List.mem_append_right _ (List.mem_append_right _ (List.mem_append_right _ (List.mem_append_left _ (List.mem_of_getElem? (i := 38) rfl))))))) (List.mem_append_right _ (List.mem_append_right _ (List.mem_append_right _ (List.mem_append_right _ (List.mem_append_right _ (List.mem_append_left _ (List.mem_of_getElem? (i := 39) rfl))))))) (List.mem_append_right _ (List.mem_append_left _ (List.mem_of_getElem? (i := 3) rfl))) (List.mem_append_right _ (List.mem_append_right _ (List.mem_append_right _ (List.mem_append_right _ (List.mem_append_right _ (List.mem_append_right _ (List.mem_append_left _ (List.mem_of_getElem? (i := 0) rfl))))))))) rfl rfl rfl (by decide +kernel) ⟨Nat.le_of_ble_eq_true rfl, Nat.le_of_ble_eq_true rfl⟩) hK hP (va_recv hK hP (ci := 1) (q0 := 1) rfl (wl_atE (by decide) rfl)) rfl hl.1 rfl (Nat.le_of_ble_eq_true rfl) d_LN_lineBehind_124 ⟨Nat.zero_le _, Nat.zero_le _⟩ ?_
              refine z_ifb_eq hx hb (tgt := 133) d_LN_lineBehind_127 (by decide) (fun c_127 => ?_) (fun c_127 => ?_)
              · refine z_iinc (v := ((k + 1 : Nat) : Int)) (lv' := [(6, .int (iI (((k + 1 : Nat) : Int)))), (7, .int (iI (0))), (5, .int (iI (((k + 1 : Nat) : Int)))), (4, .int (iI ((M 2 0 - M (30 + 4 * i) 1)))), (0, .ref (ad (3))), (1, .ref (ad (29 + 4 * i))), (2, .int (iI (((a : Nat) : Int)))), (3, .int (iI (x)))]) hx hb d_LN_lineBehind_133 hl (k := 2) rfl (by omega) (by decide) rfl (fun ls hl => ?_)
                refine lv_goto (tgt := 31) hx hb d_LN_lineBehind_136 (by decide) ?_
                have hnb : k + 1 = p_nb (M 7) (M 8) (p_tabs M i n) (M 2 0 - M (30 + 4 * i) 1) a b k bb r2 := by unfold p_nb; rw [if_pos ⟨hbr ▸ c_59, Or.inl (by omega)⟩]
                have step : p_lx (M 7) (M 8) (p_tabs M i n) (M 2 0 - M (30 + 4 * i) 1) a b (f + 1) k bb r = if (a < k + 1 ∧ M 2 0 - M (30 + 4 * i) 1 < p_least (p_tabs M i n) r2) ∨ p_endl (M 7) k then (k + 1, r2) else p_lx (M 7) (M 8) (p_tabs M i n) (M 2 0 - M (30 + 4 * i) 1) a b f (k + 1) (k + 1) r2 := by conv => lhs; unfold p_lx; rw [if_pos (by omega), ← er2, ← hnb]
                rw [if_neg (fun h => h.elim (fun h => by omega) (fun h => c_127 (hen ▸ h))), he] at step
                rw [hM1] at hP hD
                exact ih (k + 1) (k + 1) r2 (B + 60000) (by omega) (by omega) (by omega) hwr2 (by omega) step.symm H locs ls hP hD hS (lv_sub hl [0, 2, 3, 4, 5, 6, 7] rfl)
              · refine lv_goto (tgt := 139) hx hb d_LN_lineBehind_130 (by decide) ?_
                have hnb : k + 1 = p_nb (M 7) (M 8) (p_tabs M i n) (M 2 0 - M (30 + 4 * i) 1) a b k bb r2 := by unfold p_nb; rw [if_pos ⟨hbr ▸ c_59, Or.inl (by omega)⟩]
                have step : p_lx (M 7) (M 8) (p_tabs M i n) (M 2 0 - M (30 + 4 * i) 1) a b (f + 1) k bb r = if (a < k + 1 ∧ M 2 0 - M (30 + 4 * i) 1 < p_least (p_tabs M i n) r2) ∨ p_endl (M 7) k then (k + 1, r2) else p_lx (M 7) (M 8) (p_tabs M i n) (M 2 0 - M (30 + 4 * i) 1) a b f (k + 1) (k + 1) r2 := by conv => lhs; unfold p_lx; rw [if_pos (by omega), ← er2, ← hnb]
                rw [if_pos (Or.inr (hen ▸ c_127)), he] at step
                rw [hM1] at hP hD
                subst step
                exact kk H locs ls hP hD hS (lv_sub hl [1] rfl)
          · refine lv_aload_n hx hb d_LN_lineBehind_94 rfl (lv_at hl 3 rfl) ?_
            refine z_get (ci := 3) (C := R_LN) (T := T_LN) (N := 6) (v := .ref (ad (4))) hx hb hg in_LN hown hK hP (3) (by decide) rfl rfl 5 (by decide) (hg _ (List.mem_append_right _ (List.mem_append_right _ (List.mem_append_right _ (List.mem_append_right _ (List.mem_append_left _ (List.mem_of_getElem? (i := 13) rfl))))))) (fun _ h9 => h9) rfl d_LN_lineBehind_95 ?_
            refine ro_V (As := []) (rest := []) (z := p_least (p_tabs M i n) r2) ⟨hx, hb, hml, hown, hg⟩ (hle ▸ c_leastEnd l i n hp1 ht1 hr1) (cwV 0 hg (gt_V (List.mem_append_right _ (List.mem_append_right _ (List.mem_append_right _ (List.mem_append_right _ (List.mem_append_right _ (List.mem_append_right _ (List.mem_append_right _ (List.mem_append_left _ (List.mem_of_getElem? (i := 31) rfl))))))))) (List.mem_append_right _ (List.mem_append_right _ (List.mem_append_right _ (List.mem_append_right _ (List.mem_append_right _ (List.mem_append_right _ (List.mem_append_right _ (List.mem_append_left _ (List.mem_of_getElem? (i := 28) rfl))))))))) (List.mem_append_right _ (List.mem_append_right _ (List.mem_append_right _ (List.mem_append_right _ (List.mem_append_right _ (List.mem_append_right _ (List.mem_append_right _ (List.mem_append_left _ (List.mem_of_getElem? (i := 29) rfl))))))))) (List.mem_append_right _ (List.mem_append_left _ (List.mem_of_getElem? (i := 7) rfl))) (List.mem_append_right _ (List.mem_append_right _ (List.mem_append_right _ (List.mem_append_right _ (List.mem_append_right _ (List.mem_append_right _ (List.mem_append_right _ (List.mem_append_left _ (List.mem_of_getElem? (i := 30) rfl)))))))))) rfl rfl rfl (by decide +kernel) ⟨Nat.le_of_ble_eq_true rfl, Nat.le_of_ble_eq_true rfl⟩) hK hP (va_recv hK hP (ci := 4) (q0 := 4) rfl (wl_atE (by decide) rfl)) rfl hl.1 rfl (Nat.le_of_ble_eq_true rfl) d_LN_lineBehind_98 ⟨Nat.zero_le _, Nat.zero_le _⟩ ?_
            refine lv_iload hx hb d_LN_lineBehind_101 (lv_at hl 2 rfl) ?_
            refine z_icmp_le hx hb (tgt := 110) d_LN_lineBehind_103 (by decide) ⟨by omega, by omega⟩ ⟨by omega, by omega⟩ (fun c_103 => ?_) (fun c_103 => ?_)
            · refine z_iconst hx hb (z := 0) d_LN_lineBehind_110 ?_
              refine lv_istore (lv' := [(7, .int (iI (0))), (5, .int (iI (((k + 1 : Nat) : Int)))), (6, .int (iI (((k : Nat) : Int)))), (4, .int (iI ((M 2 0 - M (30 + 4 * i) 1)))), (0, .ref (ad (3))), (1, .ref (ad (29 + 4 * i))), (2, .int (iI (((a : Nat) : Int)))), (3, .int (iI (x)))]) hx hb d_LN_lineBehind_111 hl (by decide) rfl (fun ls hl => ?_)
              refine lv_iload hx hb d_LN_lineBehind_113 (lv_at hl 0 rfl) ?_
              refine z_if_ne hx hb (tgt := 139) d_LN_lineBehind_115 (by decide) ⟨by decide, by decide⟩ (fun c_115 => ?_) (fun c_115 => ?_)
              · exact absurd c_115 (by decide)
              · refine lv_aload_n hx hb d_LN_lineBehind_118 rfl (lv_at hl 4 rfl) ?_
                refine z_get (ci := 3) (C := R_LN) (T := T_LN) (N := 6) (v := .ref (ad (1))) hx hb hg in_LN hown hK hP (3) (by decide) rfl rfl 3 (by decide) (hg _ (List.mem_append_right _ (List.mem_append_right _ (List.mem_append_right _ (List.mem_append_right _ (List.mem_append_left _ (List.mem_of_getElem? (i := 11) rfl))))))) (fun _ h9 => h9) rfl d_LN_lineBehind_119 ?_
                refine lv_iload hx hb d_LN_lineBehind_122 (lv_at hl 2 rfl) ?_
                refine ro_V (As := [.int (iI (((k : Nat) : Int)))]) (rest := []) (z := bz (p_endl (M_1 7) k) inferInstance) ⟨hx, hb, hml, hown, hg⟩ (c_endsLine l k (by omega) (zb_7 ht1)) (cwV 1 hg (gt_V (List.mem_append_right _ (List.mem_append_right _ (List.mem_append_right _ (List.mem_append_right _ (List.mem_append_right _ (List.mem_append_right _ (List.mem_append_left _ (List.mem_of_getElem? (i := 32) rfl)))))))) (List.mem_append_right _ (List.mem_append_right _ (List.mem_append_right _ (List.mem_append_right _ (List.mem_append_right _ (List.mem_append_left _ (List.mem_of_getElem? (i := 38) rfl))))))) (List.mem_append_right _ (List.mem_append_right _ (List.mem_append_right _ (List.mem_append_right _ (List.mem_append_right _ (List.mem_append_left _ (List.mem_of_getElem? (i := 39) rfl))))))) (List.mem_append_right _ (List.mem_append_left _ (List.mem_of_getElem? (i := 3) rfl))) (List.mem_append_right _ (List.mem_append_right _ (List.mem_append_right _ (List.mem_append_right _ (List.mem_append_right _ (List.mem_append_right _ (List.mem_append_left _ (List.mem_of_getElem? (i := 0) rfl))))))))) rfl rfl rfl (by decide +kernel) ⟨Nat.le_of_ble_eq_true rfl, Nat.le_of_ble_eq_true rfl⟩) hK hP (va_recv hK hP (ci := 1) (q0 := 1) rfl (wl_atE (by decide) rfl)) rfl hl.1 rfl (Nat.le_of_ble_eq_true rfl) d_LN_lineBehind_124 ⟨Nat.zero_le _, Nat.zero_le _⟩ ?_
                refine z_ifb_eq hx hb (tgt := 133) d_LN_lineBehind_127 (by decide) (fun c_127 => ?_) (fun c_127 => ?_)
                · refine z_iinc (v := ((k + 1 : Nat) : Int)) (lv' := [(6, .int (iI (((k + 1 : Nat) : Int)))), (7, .int (iI (0))), (5, .int (iI (((k + 1 : Nat) : Int)))), (4, .int (iI ((M 2 0 - M (30 + 4 * i) 1)))), (0, .ref (ad (3))), (1, .ref (ad (29 + 4 * i))), (2, .int (iI (((a : Nat) : Int)))), (3, .int (iI (x)))]) hx hb d_LN_lineBehind_133 hl (k := 2) rfl (by omega) (by decide) rfl (fun ls hl => ?_)
                  refine lv_goto (tgt := 31) hx hb d_LN_lineBehind_136 (by decide) ?_
                  have hnb : k + 1 = p_nb (M 7) (M 8) (p_tabs M i n) (M 2 0 - M (30 + 4 * i) 1) a b k bb r2 := by unfold p_nb; rw [if_pos ⟨hbr ▸ c_59, Or.inl (by omega)⟩]
                  have step : p_lx (M 7) (M 8) (p_tabs M i n) (M 2 0 - M (30 + 4 * i) 1) a b (f + 1) k bb r = if (a < k + 1 ∧ M 2 0 - M (30 + 4 * i) 1 < p_least (p_tabs M i n) r2) ∨ p_endl (M 7) k then (k + 1, r2) else p_lx (M 7) (M 8) (p_tabs M i n) (M 2 0 - M (30 + 4 * i) 1) a b f (k + 1) (k + 1) r2 := by conv => lhs; unfold p_lx; rw [if_pos (by omega), ← er2, ← hnb]
                  rw [if_neg (fun h => h.elim (fun h => by omega) (fun h => c_127 (hen ▸ h))), he] at step
                  rw [hM1] at hP hD
                  exact ih (k + 1) (k + 1) r2 (B + 60000) (by omega) (by omega) (by omega) hwr2 (by omega) step.symm H locs ls hP hD hS (lv_sub hl [0, 2, 3, 4, 5, 6, 7] rfl)
                · refine lv_goto (tgt := 139) hx hb d_LN_lineBehind_130 (by decide) ?_
                  have hnb : k + 1 = p_nb (M 7) (M 8) (p_tabs M i n) (M 2 0 - M (30 + 4 * i) 1) a b k bb r2 := by unfold p_nb; rw [if_pos ⟨hbr ▸ c_59, Or.inl (by omega)⟩]
                  have step : p_lx (M 7) (M 8) (p_tabs M i n) (M 2 0 - M (30 + 4 * i) 1) a b (f + 1) k bb r = if (a < k + 1 ∧ M 2 0 - M (30 + 4 * i) 1 < p_least (p_tabs M i n) r2) ∨ p_endl (M 7) k then (k + 1, r2) else p_lx (M 7) (M 8) (p_tabs M i n) (M 2 0 - M (30 + 4 * i) 1) a b f (k + 1) (k + 1) r2 := by conv => lhs; unfold p_lx; rw [if_pos (by omega), ← er2, ← hnb]
                  rw [if_pos (Or.inr (hen ▸ c_127)), he] at step
                  rw [hM1] at hP hD
                  subst step
                  exact kk H locs ls hP hD hS (lv_sub hl [1] rfl)
            · refine z_iconst hx hb (z := 1) d_LN_lineBehind_106 ?_
              refine lv_goto (tgt := 111) hx hb d_LN_lineBehind_107 (by decide) ?_
              refine lv_istore (lv' := [(7, .int (iI (1))), (5, .int (iI (((k + 1 : Nat) : Int)))), (6, .int (iI (((k : Nat) : Int)))), (4, .int (iI ((M 2 0 - M (30 + 4 * i) 1)))), (0, .ref (ad (3))), (1, .ref (ad (29 + 4 * i))), (2, .int (iI (((a : Nat) : Int)))), (3, .int (iI (x)))]) hx hb d_LN_lineBehind_111 hl (by decide) rfl (fun ls hl => ?_)
              refine lv_iload hx hb d_LN_lineBehind_113 (lv_at hl 0 rfl) ?_
              refine z_if_ne hx hb (tgt := 139) d_LN_lineBehind_115 (by decide) ⟨by decide, by decide⟩ (fun c_115 => ?_) (fun c_115 => ?_)
              · have hnb : k + 1 = p_nb (M 7) (M 8) (p_tabs M i n) (M 2 0 - M (30 + 4 * i) 1) a b k bb r2 := by unfold p_nb; rw [if_pos ⟨hbr ▸ c_59, Or.inl (by omega)⟩]
                have step : p_lx (M 7) (M 8) (p_tabs M i n) (M 2 0 - M (30 + 4 * i) 1) a b (f + 1) k bb r = if (a < k + 1 ∧ M 2 0 - M (30 + 4 * i) 1 < p_least (p_tabs M i n) r2) ∨ p_endl (M 7) k then (k + 1, r2) else p_lx (M 7) (M 8) (p_tabs M i n) (M 2 0 - M (30 + 4 * i) 1) a b f (k + 1) (k + 1) r2 := by conv => lhs; unfold p_lx; rw [if_pos (by omega), ← er2, ← hnb]
                rw [if_pos (Or.inl ⟨by omega, by omega⟩), he] at step
                rw [hM1] at hP hD
                subst step
                exact kk H locs ls hP hD hS (lv_sub hl [1] rfl)
              · exact absurd c_115 (by decide)
        · refine lv_aload_n hx hb d_LN_lineBehind_68 rfl (lv_at hl 3 rfl) ?_
          refine z_get (ci := 3) (C := R_LN) (T := T_LN) (N := 6) (v := .ref (ad (4))) hx hb hg in_LN hown hK hP (3) (by decide) rfl rfl 5 (by decide) (hg _ (List.mem_append_right _ (List.mem_append_right _ (List.mem_append_right _ (List.mem_append_right _ (List.mem_append_left _ (List.mem_of_getElem? (i := 13) rfl))))))) (fun _ h9 => h9) rfl d_LN_lineBehind_69 ?_
          refine lv_iload hx hb d_LN_lineBehind_72 (lv_at hl 0 rfl) ?_
          refine ro_V (As := [.int (iI (((k : Nat) : Int)))]) (rest := []) (z := p_endb (M 7) (M 8) (p_tabs M i n) r2 k) ⟨hx, hb, hml, hown, hg⟩ (heb ▸ c_endBehind l i n k (by omega) hp1 ht1 hr1) (cwV 1 hg (gt_V (List.mem_append_right _ (List.mem_append_right _ (List.mem_append_right _ (List.mem_append_right _ (List.mem_append_right _ (List.mem_append_right _ (List.mem_append_right _ (List.mem_append_left _ (List.mem_of_getElem? (i := 23) rfl))))))))) (List.mem_append_right _ (List.mem_append_right _ (List.mem_append_right _ (List.mem_append_right _ (List.mem_append_right _ (List.mem_append_right _ (List.mem_append_right _ (List.mem_append_left _ (List.mem_of_getElem? (i := 24) rfl))))))))) (List.mem_append_right _ (List.mem_append_right _ (List.mem_append_right _ (List.mem_append_right _ (List.mem_append_right _ (List.mem_append_right _ (List.mem_append_right _ (List.mem_append_left _ (List.mem_of_getElem? (i := 25) rfl))))))))) (List.mem_append_right _ (List.mem_append_left _ (List.mem_of_getElem? (i := 7) rfl))) (List.mem_append_right _ (List.mem_append_right _ (List.mem_append_right _ (List.mem_append_right _ (List.mem_append_right _ (List.mem_append_right _ (List.mem_append_right _ (List.mem_append_left _ (List.mem_of_getElem? (i := 26) rfl)))))))))) rfl rfl rfl (by decide +kernel) ⟨Nat.le_of_ble_eq_true rfl, Nat.le_of_ble_eq_true rfl⟩) hK hP (va_recv hK hP (ci := 4) (q0 := 4) rfl (wl_atE (by decide) rfl)) rfl hl.1 rfl (Nat.le_of_ble_eq_true rfl) d_LN_lineBehind_74 ⟨Nat.zero_le _, Nat.zero_le _⟩ ?_
          refine lv_iload hx hb d_LN_lineBehind_77 (lv_at hl 2 rfl) ?_
          refine z_icmp_gt hx hb (tgt := 88) d_LN_lineBehind_79 (by decide) ⟨by omega, by omega⟩ ⟨by omega, by omega⟩ (fun c_79 => ?_) (fun c_79 => ?_)
          · refine lv_iload hx hb d_LN_lineBehind_88 (lv_at hl 1 rfl) ?_
            refine lv_iload_n hx hb d_LN_lineBehind_90 rfl (lv_at hl 5 rfl) ?_
            refine z_icmp_le hx hb (tgt := 110) d_LN_lineBehind_91 (by decide) ⟨by omega, by omega⟩ ⟨by omega, by omega⟩ (fun c_91 => ?_) (fun c_91 => ?_)
            · refine z_iconst hx hb (z := 0) d_LN_lineBehind_110 ?_
              refine lv_istore (lv' := [(7, .int (iI (0))), (6, .int (iI (((k : Nat) : Int)))), (5, .int (iI (((bb : Nat) : Int)))), (4, .int (iI ((M 2 0 - M (30 + 4 * i) 1)))), (0, .ref (ad (3))), (1, .ref (ad (29 + 4 * i))), (2, .int (iI (((a : Nat) : Int)))), (3, .int (iI (x)))]) hx hb d_LN_lineBehind_111 hl (by decide) rfl (fun ls hl => ?_)
              refine lv_iload hx hb d_LN_lineBehind_113 (lv_at hl 0 rfl) ?_
              refine z_if_ne hx hb (tgt := 139) d_LN_lineBehind_115 (by decide) ⟨by decide, by decide⟩ (fun c_115 => ?_) (fun c_115 => ?_)
              · exact absurd c_115 (by decide)
              · refine lv_aload_n hx hb d_LN_lineBehind_118 rfl (lv_at hl 4 rfl) ?_
                refine z_get (ci := 3) (C := R_LN) (T := T_LN) (N := 6) (v := .ref (ad (1))) hx hb hg in_LN hown hK hP (3) (by decide) rfl rfl 3 (by decide) (hg _ (List.mem_append_right _ (List.mem_append_right _ (List.mem_append_right _ (List.mem_append_right _ (List.mem_append_left _ (List.mem_of_getElem? (i := 11) rfl))))))) (fun _ h9 => h9) rfl d_LN_lineBehind_119 ?_
                refine lv_iload hx hb d_LN_lineBehind_122 (lv_at hl 1 rfl) ?_
                refine ro_V (As := [.int (iI (((k : Nat) : Int)))]) (rest := []) (z := bz (p_endl (M_1 7) k) inferInstance) ⟨hx, hb, hml, hown, hg⟩ (c_endsLine l k (by omega) (zb_7 ht1)) (cwV 1 hg (gt_V (List.mem_append_right _ (List.mem_append_right _ (List.mem_append_right _ (List.mem_append_right _ (List.mem_append_right _ (List.mem_append_right _ (List.mem_append_left _ (List.mem_of_getElem? (i := 32) rfl)))))))) (List.mem_append_right _ (List.mem_append_right _ (List.mem_append_right _ (List.mem_append_right _ (List.mem_append_right _ (List.mem_append_left _ (List.mem_of_getElem? (i := 38) rfl))))))) (List.mem_append_right _ (List.mem_append_right _ (List.mem_append_right _ (List.mem_append_right _ (List.mem_append_right _ (List.mem_append_left _ (List.mem_of_getElem? (i := 39) rfl))))))) (List.mem_append_right _ (List.mem_append_left _ (List.mem_of_getElem? (i := 3) rfl))) (List.mem_append_right _ (List.mem_append_right _ (List.mem_append_right _ (List.mem_append_right _ (List.mem_append_right _ (List.mem_append_right _ (List.mem_append_left _ (List.mem_of_getElem? (i := 0) rfl))))))))) rfl rfl rfl (by decide +kernel) ⟨Nat.le_of_ble_eq_true rfl, Nat.le_of_ble_eq_true rfl⟩) hK hP (va_recv hK hP (ci := 1) (q0 := 1) rfl (wl_atE (by decide) rfl)) rfl hl.1 rfl (Nat.le_of_ble_eq_true rfl) d_LN_lineBehind_124 ⟨Nat.zero_le _, Nat.zero_le _⟩ ?_
                refine z_ifb_eq hx hb (tgt := 133) d_LN_lineBehind_127 (by decide) (fun c_127 => ?_) (fun c_127 => ?_)
                · refine z_iinc (v := ((k + 1 : Nat) : Int)) (lv' := [(6, .int (iI (((k + 1 : Nat) : Int)))), (7, .int (iI (0))), (5, .int (iI (((bb : Nat) : Int)))), (4, .int (iI ((M 2 0 - M (30 + 4 * i) 1)))), (0, .ref (ad (3))), (1, .ref (ad (29 + 4 * i))), (2, .int (iI (((a : Nat) : Int)))), (3, .int (iI (x)))]) hx hb d_LN_lineBehind_133 hl (k := 1) rfl (by omega) (by decide) rfl (fun ls hl => ?_)
                  refine lv_goto (tgt := 31) hx hb d_LN_lineBehind_136 (by decide) ?_
                  have hnb : bb = p_nb (M 7) (M 8) (p_tabs M i n) (M 2 0 - M (30 + 4 * i) 1) a b k bb r2 := by unfold p_nb; rw [if_neg (fun h => h.2.elim (fun q => c_65 (by omega)) (fun q => by omega))]
                  have step : p_lx (M 7) (M 8) (p_tabs M i n) (M 2 0 - M (30 + 4 * i) 1) a b (f + 1) k bb r = if (a < bb ∧ M 2 0 - M (30 + 4 * i) 1 < p_least (p_tabs M i n) r2) ∨ p_endl (M 7) k then (bb, r2) else p_lx (M 7) (M 8) (p_tabs M i n) (M 2 0 - M (30 + 4 * i) 1) a b f (k + 1) (bb) r2 := by conv => lhs; unfold p_lx; rw [if_pos (by omega), ← er2, ← hnb]
                  rw [if_neg (fun h => h.elim (fun h => by omega) (fun h => c_127 (hen ▸ h))), he] at step
                  rw [hM1] at hP hD
                  exact ih (k + 1) (bb) r2 (B + 60000) (by omega) (by omega) (by omega) hwr2 (by omega) step.symm H locs ls hP hD hS (lv_sub hl [0, 2, 3, 4, 5, 6, 7] rfl)
                · refine lv_goto (tgt := 139) hx hb d_LN_lineBehind_130 (by decide) ?_
                  have hnb : bb = p_nb (M 7) (M 8) (p_tabs M i n) (M 2 0 - M (30 + 4 * i) 1) a b k bb r2 := by unfold p_nb; rw [if_neg (fun h => h.2.elim (fun q => c_65 (by omega)) (fun q => by omega))]
                  have step : p_lx (M 7) (M 8) (p_tabs M i n) (M 2 0 - M (30 + 4 * i) 1) a b (f + 1) k bb r = if (a < bb ∧ M 2 0 - M (30 + 4 * i) 1 < p_least (p_tabs M i n) r2) ∨ p_endl (M 7) k then (bb, r2) else p_lx (M 7) (M 8) (p_tabs M i n) (M 2 0 - M (30 + 4 * i) 1) a b f (k + 1) (bb) r2 := by conv => lhs; unfold p_lx; rw [if_pos (by omega), ← er2, ← hnb]
                  rw [if_pos (Or.inr (hen ▸ c_127)), he] at step
                  rw [hM1] at hP hD
                  subst step
                  exact kk H locs ls hP hD hS (lv_sub hl [2] rfl)
            · refine lv_aload_n hx hb d_LN_lineBehind_94 rfl (lv_at hl 3 rfl) ?_
              refine z_get (ci := 3) (C := R_LN) (T := T_LN) (N := 6) (v := .ref (ad (4))) hx hb hg in_LN hown hK hP (3) (by decide) rfl rfl 5 (by decide) (hg _ (List.mem_append_right _ (List.mem_append_right _ (List.mem_append_right _ (List.mem_append_right _ (List.mem_append_left _ (List.mem_of_getElem? (i := 13) rfl))))))) (fun _ h9 => h9) rfl d_LN_lineBehind_95 ?_
              refine ro_V (As := []) (rest := []) (z := p_least (p_tabs M i n) r2) ⟨hx, hb, hml, hown, hg⟩ (hle ▸ c_leastEnd l i n hp1 ht1 hr1) (cwV 0 hg (gt_V (List.mem_append_right _ (List.mem_append_right _ (List.mem_append_right _ (List.mem_append_right _ (List.mem_append_right _ (List.mem_append_right _ (List.mem_append_right _ (List.mem_append_left _ (List.mem_of_getElem? (i := 31) rfl))))))))) (List.mem_append_right _ (List.mem_append_right _ (List.mem_append_right _ (List.mem_append_right _ (List.mem_append_right _ (List.mem_append_right _ (List.mem_append_right _ (List.mem_append_left _ (List.mem_of_getElem? (i := 28) rfl))))))))) (List.mem_append_right _ (List.mem_append_right _ (List.mem_append_right _ (List.mem_append_right _ (List.mem_append_right _ (List.mem_append_right _ (List.mem_append_right _ (List.mem_append_left _ (List.mem_of_getElem? (i := 29) rfl))))))))) (List.mem_append_right _ (List.mem_append_left _ (List.mem_of_getElem? (i := 7) rfl))) (List.mem_append_right _ (List.mem_append_right _ (List.mem_append_right _ (List.mem_append_right _ (List.mem_append_right _ (List.mem_append_right _ (List.mem_append_right _ (List.mem_append_left _ (List.mem_of_getElem? (i := 30) rfl)))))))))) rfl rfl rfl (by decide +kernel) ⟨Nat.le_of_ble_eq_true rfl, Nat.le_of_ble_eq_true rfl⟩) hK hP (va_recv hK hP (ci := 4) (q0 := 4) rfl (wl_atE (by decide) rfl)) rfl hl.1 rfl (Nat.le_of_ble_eq_true rfl) d_LN_lineBehind_98 ⟨Nat.zero_le _, Nat.zero_le _⟩ ?_
              refine lv_iload hx hb d_LN_lineBehind_101 (lv_at hl 2 rfl) ?_
              refine z_icmp_le hx hb (tgt := 110) d_LN_lineBehind_103 (by decide) ⟨by omega, by omega⟩ ⟨by omega, by omega⟩ (fun c_103 => ?_) (fun c_103 => ?_)
              · refine z_iconst hx hb (z := 0) d_LN_lineBehind_110 ?_
                refine lv_istore (lv' := [(7, .int (iI (0))), (6, .int (iI (((k : Nat) : Int)))), (5, .int (iI (((bb : Nat) : Int)))), (4, .int (iI ((M 2 0 - M (30 + 4 * i) 1)))), (0, .ref (ad (3))), (1, .ref (ad (29 + 4 * i))), (2, .int (iI (((a : Nat) : Int)))), (3, .int (iI (x)))]) hx hb d_LN_lineBehind_111 hl (by decide) rfl (fun ls hl => ?_)
                refine lv_iload hx hb d_LN_lineBehind_113 (lv_at hl 0 rfl) ?_
                refine z_if_ne hx hb (tgt := 139) d_LN_lineBehind_115 (by decide) ⟨by decide, by decide⟩ (fun c_115 => ?_) (fun c_115 => ?_)
                · exact absurd c_115 (by decide)
                · refine lv_aload_n hx hb d_LN_lineBehind_118 rfl (lv_at hl 4 rfl) ?_
                  refine z_get (ci := 3) (C := R_LN) (T := T_LN) (N := 6) (v := .ref (ad (1))) hx hb hg in_LN hown hK hP (3) (by decide) rfl rfl 3 (by decide) (hg _ (List.mem_append_right _ (List.mem_append_right _ (List.mem_append_right _ (List.mem_append_right _ (List.mem_append_left _ (List.mem_of_getElem? (i := 11) rfl))))))) (fun _ h9 => h9) rfl d_LN_lineBehind_119 ?_
                  refine lv_iload hx hb d_LN_lineBehind_122 (lv_at hl 1 rfl) ?_
                  refine ro_V (As := [.int (iI (((k : Nat) : Int)))]) (rest := []) (z := bz (p_endl (M_1 7) k) inferInstance) ⟨hx, hb, hml, hown, hg⟩ (c_endsLine l k (by omega) (zb_7 ht1)) (cwV 1 hg (gt_V (List.mem_append_right _ (List.mem_append_right _ (List.mem_append_right _ (List.mem_append_right _ (List.mem_append_right _ (List.mem_append_right _ (List.mem_append_left _ (List.mem_of_getElem? (i := 32) rfl)))))))) (List.mem_append_right _ (List.mem_append_right _ (List.mem_append_right _ (List.mem_append_right _ (List.mem_append_right _ (List.mem_append_left _ (List.mem_of_getElem? (i := 38) rfl))))))) (List.mem_append_right _ (List.mem_append_right _ (List.mem_append_right _ (List.mem_append_right _ (List.mem_append_right _ (List.mem_append_left _ (List.mem_of_getElem? (i := 39) rfl))))))) (List.mem_append_right _ (List.mem_append_left _ (List.mem_of_getElem? (i := 3) rfl))) (List.mem_append_right _ (List.mem_append_right _ (List.mem_append_right _ (List.mem_append_right _ (List.mem_append_right _ (List.mem_append_right _ (List.mem_append_left _ (List.mem_of_getElem? (i := 0) rfl))))))))) rfl rfl rfl (by decide +kernel) ⟨Nat.le_of_ble_eq_true rfl, Nat.le_of_ble_eq_true rfl⟩) hK hP (va_recv hK hP (ci := 1) (q0 := 1) rfl (wl_atE (by decide) rfl)) rfl hl.1 rfl (Nat.le_of_ble_eq_true rfl) d_LN_lineBehind_124 ⟨Nat.zero_le _, Nat.zero_le _⟩ ?_
                  refine z_ifb_eq hx hb (tgt := 133) d_LN_lineBehind_127 (by decide) (fun c_127 => ?_) (fun c_127 => ?_)
                  · refine z_iinc (v := ((k + 1 : Nat) : Int)) (lv' := [(6, .int (iI (((k + 1 : Nat) : Int)))), (7, .int (iI (0))), (5, .int (iI (((bb : Nat) : Int)))), (4, .int (iI ((M 2 0 - M (30 + 4 * i) 1)))), (0, .ref (ad (3))), (1, .ref (ad (29 + 4 * i))), (2, .int (iI (((a : Nat) : Int)))), (3, .int (iI (x)))]) hx hb d_LN_lineBehind_133 hl (k := 1) rfl (by omega) (by decide) rfl (fun ls hl => ?_)
                    refine lv_goto (tgt := 31) hx hb d_LN_lineBehind_136 (by decide) ?_
                    have hnb : bb = p_nb (M 7) (M 8) (p_tabs M i n) (M 2 0 - M (30 + 4 * i) 1) a b k bb r2 := by unfold p_nb; rw [if_neg (fun h => h.2.elim (fun q => c_65 (by omega)) (fun q => by omega))]
                    have step : p_lx (M 7) (M 8) (p_tabs M i n) (M 2 0 - M (30 + 4 * i) 1) a b (f + 1) k bb r = if (a < bb ∧ M 2 0 - M (30 + 4 * i) 1 < p_least (p_tabs M i n) r2) ∨ p_endl (M 7) k then (bb, r2) else p_lx (M 7) (M 8) (p_tabs M i n) (M 2 0 - M (30 + 4 * i) 1) a b f (k + 1) (bb) r2 := by conv => lhs; unfold p_lx; rw [if_pos (by omega), ← er2, ← hnb]
                    rw [if_neg (fun h => h.elim (fun h => by omega) (fun h => c_127 (hen ▸ h))), he] at step
                    rw [hM1] at hP hD
                    exact ih (k + 1) (bb) r2 (B + 60000) (by omega) (by omega) (by omega) hwr2 (by omega) step.symm H locs ls hP hD hS (lv_sub hl [0, 2, 3, 4, 5, 6, 7] rfl)
                  · refine lv_goto (tgt := 139) hx hb d_LN_lineBehind_130 (by decide) ?_
                    have hnb : bb = p_nb (M 7) (M 8) (p_tabs M i n) (M 2 0 - M (30 + 4 * i) 1) a b k bb r2 := by unfold p_nb; rw [if_neg (fun h => h.2.elim (fun q => c_65 (by omega)) (fun q => by omega))]
                    have step : p_lx (M 7) (M 8) (p_tabs M i n) (M 2 0 - M (30 + 4 * i) 1) a b (f + 1) k bb r = if (a < bb ∧ M 2 0 - M (30 + 4 * i) 1 < p_least (p_tabs M i n) r2) ∨ p_endl (M 7) k then (bb, r2) else p_lx (M 7) (M 8) (p_tabs M i n) (M 2 0 - M (30 + 4 * i) 1) a b f (k + 1) (bb) r2 := by conv => lhs; unfold p_lx; rw [if_pos (by omega), ← er2, ← hnb]
                    rw [if_pos (Or.inr (hen ▸ c_127)), he] at step
                    rw [hM1] at hP hD
                    subst step
                    exact kk H locs ls hP hD hS (lv_sub hl [2] rfl)
              · refine z_iconst hx hb (z := 1) d_LN_lineBehind_106 ?_
                refine lv_goto (tgt := 111) hx hb d_LN_lineBehind_107 (by decide) ?_
                refine lv_istore (lv' := [(7, .int (iI (1))), (6, .int (iI (((k : Nat) : Int)))), (5, .int (iI (((bb : Nat) : Int)))), (4, .int (iI ((M 2 0 - M (30 + 4 * i) 1)))), (0, .ref (ad (3))), (1, .ref (ad (29 + 4 * i))), (2, .int (iI (((a : Nat) : Int)))), (3, .int (iI (x)))]) hx hb d_LN_lineBehind_111 hl (by decide) rfl (fun ls hl => ?_)
                refine lv_iload hx hb d_LN_lineBehind_113 (lv_at hl 0 rfl) ?_
                refine z_if_ne hx hb (tgt := 139) d_LN_lineBehind_115 (by decide) ⟨by decide, by decide⟩ (fun c_115 => ?_) (fun c_115 => ?_)
                · have hnb : bb = p_nb (M 7) (M 8) (p_tabs M i n) (M 2 0 - M (30 + 4 * i) 1) a b k bb r2 := by unfold p_nb; rw [if_neg (fun h => h.2.elim (fun q => c_65 (by omega)) (fun q => by omega))]
                  have step : p_lx (M 7) (M 8) (p_tabs M i n) (M 2 0 - M (30 + 4 * i) 1) a b (f + 1) k bb r = if (a < bb ∧ M 2 0 - M (30 + 4 * i) 1 < p_least (p_tabs M i n) r2) ∨ p_endl (M 7) k then (bb, r2) else p_lx (M 7) (M 8) (p_tabs M i n) (M 2 0 - M (30 + 4 * i) 1) a b f (k + 1) (bb) r2 := by conv => lhs; unfold p_lx; rw [if_pos (by omega), ← er2, ← hnb]
                  rw [if_pos (Or.inl ⟨by omega, by omega⟩), he] at step
                  rw [hM1] at hP hD
                  subst step
                  exact kk H locs ls hP hD hS (lv_sub hl [2] rfl)
                · exact absurd c_115 (by decide)
          · refine lv_iload hx hb d_LN_lineBehind_82 (lv_at hl 0 rfl) ?_
            refine z_iconst hx hb (z := 1) d_LN_lineBehind_84 ?_
            refine z_iadd hx hb d_LN_lineBehind_85 (v := ((k + 1 : Nat) : Int)) (by omega) ?_
            refine lv_istore (lv' := [(5, .int (iI (((k + 1 : Nat) : Int)))), (6, .int (iI (((k : Nat) : Int)))), (4, .int (iI ((M 2 0 - M (30 + 4 * i) 1)))), (0, .ref (ad (3))), (1, .ref (ad (29 + 4 * i))), (2, .int (iI (((a : Nat) : Int)))), (3, .int (iI (x)))]) hx hb d_LN_lineBehind_86 hl (by decide) rfl (fun ls hl => ?_)
            refine lv_iload hx hb d_LN_lineBehind_88 (lv_at hl 0 rfl) ?_
            refine lv_iload_n hx hb d_LN_lineBehind_90 rfl (lv_at hl 5 rfl) ?_
            refine z_icmp_le hx hb (tgt := 110) d_LN_lineBehind_91 (by decide) ⟨by omega, by omega⟩ ⟨by omega, by omega⟩ (fun c_91 => ?_) (fun c_91 => ?_)
            · refine z_iconst hx hb (z := 0) d_LN_lineBehind_110 ?_
              refine lv_istore (lv' := [(7, .int (iI (0))), (5, .int (iI (((k + 1 : Nat) : Int)))), (6, .int (iI (((k : Nat) : Int)))), (4, .int (iI ((M 2 0 - M (30 + 4 * i) 1)))), (0, .ref (ad (3))), (1, .ref (ad (29 + 4 * i))), (2, .int (iI (((a : Nat) : Int)))), (3, .int (iI (x)))]) hx hb d_LN_lineBehind_111 hl (by decide) rfl (fun ls hl => ?_)
              refine lv_iload hx hb d_LN_lineBehind_113 (lv_at hl 0 rfl) ?_
              refine z_if_ne hx hb (tgt := 139) d_LN_lineBehind_115 (by decide) ⟨by decide, by decide⟩ (fun c_115 => ?_) (fun c_115 => ?_)
              · exact absurd c_115 (by decide)
              · refine lv_aload_n hx hb d_LN_lineBehind_118 rfl (lv_at hl 4 rfl) ?_
                refine z_get (ci := 3) (C := R_LN) (T := T_LN) (N := 6) (v := .ref (ad (1))) hx hb hg in_LN hown hK hP (3) (by decide) rfl rfl 3 (by decide) (hg _ (List.mem_append_right _ (List.mem_append_right _ (List.mem_append_right _ (List.mem_append_right _ (List.mem_append_left _ (List.mem_of_getElem? (i := 11) rfl))))))) (fun _ h9 => h9) rfl d_LN_lineBehind_119 ?_
                refine lv_iload hx hb d_LN_lineBehind_122 (lv_at hl 2 rfl) ?_
                refine ro_V (As := [.int (iI (((k : Nat) : Int)))]) (rest := []) (z := bz (p_endl (M_1 7) k) inferInstance) ⟨hx, hb, hml, hown, hg⟩ (c_endsLine l k (by omega) (zb_7 ht1)) (cwV 1 hg (gt_V (List.mem_append_right _ (List.mem_append_right _ (List.mem_append_right _ (List.mem_append_right _ (List.mem_append_right _ (List.mem_append_right _ (List.mem_append_left _ (List.mem_of_getElem? (i := 32) rfl)))))))) (List.mem_append_right _ (List.mem_append_right _ (List.mem_append_right _ (List.mem_append_right _ (List.mem_append_right _ (List.mem_append_left _ (List.mem_of_getElem? (i := 38) rfl))))))) (List.mem_append_right _ (List.mem_append_right _ (List.mem_append_right _ (List.mem_append_right _ (List.mem_append_right _ (List.mem_append_left _ (List.mem_of_getElem? (i := 39) rfl))))))) (List.mem_append_right _ (List.mem_append_left _ (List.mem_of_getElem? (i := 3) rfl))) (List.mem_append_right _ (List.mem_append_right _ (List.mem_append_right _ (List.mem_append_right _ (List.mem_append_right _ (List.mem_append_right _ (List.mem_append_left _ (List.mem_of_getElem? (i := 0) rfl))))))))) rfl rfl rfl (by decide +kernel) ⟨Nat.le_of_ble_eq_true rfl, Nat.le_of_ble_eq_true rfl⟩) hK hP (va_recv hK hP (ci := 1) (q0 := 1) rfl (wl_atE (by decide) rfl)) rfl hl.1 rfl (Nat.le_of_ble_eq_true rfl) d_LN_lineBehind_124 ⟨Nat.zero_le _, Nat.zero_le _⟩ ?_
                refine z_ifb_eq hx hb (tgt := 133) d_LN_lineBehind_127 (by decide) (fun c_127 => ?_) (fun c_127 => ?_)
                · refine z_iinc (v := ((k + 1 : Nat) : Int)) (lv' := [(6, .int (iI (((k + 1 : Nat) : Int)))), (7, .int (iI (0))), (5, .int (iI (((k + 1 : Nat) : Int)))), (4, .int (iI ((M 2 0 - M (30 + 4 * i) 1)))), (0, .ref (ad (3))), (1, .ref (ad (29 + 4 * i))), (2, .int (iI (((a : Nat) : Int)))), (3, .int (iI (x)))]) hx hb d_LN_lineBehind_133 hl (k := 2) rfl (by omega) (by decide) rfl (fun ls hl => ?_)
                  refine lv_goto (tgt := 31) hx hb d_LN_lineBehind_136 (by decide) ?_
                  have hnb : k + 1 = p_nb (M 7) (M 8) (p_tabs M i n) (M 2 0 - M (30 + 4 * i) 1) a b k bb r2 := by unfold p_nb; rw [if_pos ⟨hbr ▸ c_59, Or.inr (by omega)⟩]
                  have step : p_lx (M 7) (M 8) (p_tabs M i n) (M 2 0 - M (30 + 4 * i) 1) a b (f + 1) k bb r = if (a < k + 1 ∧ M 2 0 - M (30 + 4 * i) 1 < p_least (p_tabs M i n) r2) ∨ p_endl (M 7) k then (k + 1, r2) else p_lx (M 7) (M 8) (p_tabs M i n) (M 2 0 - M (30 + 4 * i) 1) a b f (k + 1) (k + 1) r2 := by conv => lhs; unfold p_lx; rw [if_pos (by omega), ← er2, ← hnb]
                  rw [if_neg (fun h => h.elim (fun h => by omega) (fun h => c_127 (hen ▸ h))), he] at step
                  rw [hM1] at hP hD
                  exact ih (k + 1) (k + 1) r2 (B + 60000) (by omega) (by omega) (by omega) hwr2 (by omega) step.symm H locs ls hP hD hS (lv_sub hl [0, 2, 3, 4, 5, 6, 7] rfl)
                · refine lv_goto (tgt := 139) hx hb d_LN_lineBehind_130 (by decide) ?_
                  have hnb : k + 1 = p_nb (M 7) (M 8) (p_tabs M i n) (M 2 0 - M (30 + 4 * i) 1) a b k bb r2 := by unfold p_nb; rw [if_pos ⟨hbr ▸ c_59, Or.inr (by omega)⟩]
                  have step : p_lx (M 7) (M 8) (p_tabs M i n) (M 2 0 - M (30 + 4 * i) 1) a b (f + 1) k bb r = if (a < k + 1 ∧ M 2 0 - M (30 + 4 * i) 1 < p_least (p_tabs M i n) r2) ∨ p_endl (M 7) k then (k + 1, r2) else p_lx (M 7) (M 8) (p_tabs M i n) (M 2 0 - M (30 + 4 * i) 1) a b f (k + 1) (k + 1) r2 := by conv => lhs; unfold p_lx; rw [if_pos (by omega), ← er2, ← hnb]
                  rw [if_pos (Or.inr (hen ▸ c_127)), he] at step
                  rw [hM1] at hP hD
                  subst step
                  exact kk H locs ls hP hD hS (lv_sub hl [1] rfl)
            · refine lv_aload_n hx hb d_LN_lineBehind_94 rfl (lv_at hl 3 rfl) ?_
              refine z_get (ci := 3) (C := R_LN) (T := T_LN) (N := 6) (v := .ref (ad (4))) hx hb hg in_LN hown hK hP (3) (by decide) rfl rfl 5 (by decide) (hg _ (List.mem_append_right _ (List.mem_append_right _ (List.mem_append_right _ (List.mem_append_right _ (List.mem_append_left _ (List.mem_of_getElem? (i := 13) rfl))))))) (fun _ h9 => h9) rfl d_LN_lineBehind_95 ?_
              refine ro_V (As := []) (rest := []) (z := p_least (p_tabs M i n) r2) ⟨hx, hb, hml, hown, hg⟩ (hle ▸ c_leastEnd l i n hp1 ht1 hr1) (cwV 0 hg (gt_V (List.mem_append_right _ (List.mem_append_right _ (List.mem_append_right _ (List.mem_append_right _ (List.mem_append_right _ (List.mem_append_right _ (List.mem_append_right _ (List.mem_append_left _ (List.mem_of_getElem? (i := 31) rfl))))))))) (List.mem_append_right _ (List.mem_append_right _ (List.mem_append_right _ (List.mem_append_right _ (List.mem_append_right _ (List.mem_append_right _ (List.mem_append_right _ (List.mem_append_left _ (List.mem_of_getElem? (i := 28) rfl))))))))) (List.mem_append_right _ (List.mem_append_right _ (List.mem_append_right _ (List.mem_append_right _ (List.mem_append_right _ (List.mem_append_right _ (List.mem_append_right _ (List.mem_append_left _ (List.mem_of_getElem? (i := 29) rfl))))))))) (List.mem_append_right _ (List.mem_append_left _ (List.mem_of_getElem? (i := 7) rfl))) (List.mem_append_right _ (List.mem_append_right _ (List.mem_append_right _ (List.mem_append_right _ (List.mem_append_right _ (List.mem_append_right _ (List.mem_append_right _ (List.mem_append_left _ (List.mem_of_getElem? (i := 30) rfl)))))))))) rfl rfl rfl (by decide +kernel) ⟨Nat.le_of_ble_eq_true rfl, Nat.le_of_ble_eq_true rfl⟩) hK hP (va_recv hK hP (ci := 4) (q0 := 4) rfl (wl_atE (by decide) rfl)) rfl hl.1 rfl (Nat.le_of_ble_eq_true rfl) d_LN_lineBehind_98 ⟨Nat.zero_le _, Nat.zero_le _⟩ ?_
              refine lv_iload hx hb d_LN_lineBehind_101 (lv_at hl 2 rfl) ?_
              refine z_icmp_le hx hb (tgt := 110) d_LN_lineBehind_103 (by decide) ⟨by omega, by omega⟩ ⟨by omega, by omega⟩ (fun c_103 => ?_) (fun c_103 => ?_)
              · refine z_iconst hx hb (z := 0) d_LN_lineBehind_110 ?_
                refine lv_istore (lv' := [(7, .int (iI (0))), (5, .int (iI (((k + 1 : Nat) : Int)))), (6, .int (iI (((k : Nat) : Int)))), (4, .int (iI ((M 2 0 - M (30 + 4 * i) 1)))), (0, .ref (ad (3))), (1, .ref (ad (29 + 4 * i))), (2, .int (iI (((a : Nat) : Int)))), (3, .int (iI (x)))]) hx hb d_LN_lineBehind_111 hl (by decide) rfl (fun ls hl => ?_)
                refine lv_iload hx hb d_LN_lineBehind_113 (lv_at hl 0 rfl) ?_
                refine z_if_ne hx hb (tgt := 139) d_LN_lineBehind_115 (by decide) ⟨by decide, by decide⟩ (fun c_115 => ?_) (fun c_115 => ?_)
                · exact absurd c_115 (by decide)
                · refine lv_aload_n hx hb d_LN_lineBehind_118 rfl (lv_at hl 4 rfl) ?_
                  refine z_get (ci := 3) (C := R_LN) (T := T_LN) (N := 6) (v := .ref (ad (1))) hx hb hg in_LN hown hK hP (3) (by decide) rfl rfl 3 (by decide) (hg _ (List.mem_append_right _ (List.mem_append_right _ (List.mem_append_right _ (List.mem_append_right _ (List.mem_append_left _ (List.mem_of_getElem? (i := 11) rfl))))))) (fun _ h9 => h9) rfl d_LN_lineBehind_119 ?_
                  refine lv_iload hx hb d_LN_lineBehind_122 (lv_at hl 2 rfl) ?_
                  refine ro_V (As := [.int (iI (((k : Nat) : Int)))]) (rest := []) (z := bz (p_endl (M_1 7) k) inferInstance) ⟨hx, hb, hml, hown, hg⟩ (c_endsLine l k (by omega) (zb_7 ht1)) (cwV 1 hg (gt_V (List.mem_append_right _ (List.mem_append_right _ (List.mem_append_right _ (List.mem_append_right _ (List.mem_append_right _ (List.mem_append_right _ (List.mem_append_left _ (List.mem_of_getElem? (i := 32) rfl)))))))) (List.mem_append_right _ (List.mem_append_right _ (List.mem_append_right _ (List.mem_append_right _ (List.mem_append_right _ (List.mem_append_left _ (List.mem_of_getElem? (i := 38) rfl))))))) (List.mem_append_right _ (List.mem_append_right _ (List.mem_append_right _ (List.mem_append_right _ (List.mem_append_right _ (List.mem_append_left _ (List.mem_of_getElem? (i := 39) rfl))))))) (List.mem_append_right _ (List.mem_append_left _ (List.mem_of_getElem? (i := 3) rfl))) (List.mem_append_right _ (List.mem_append_right _ (List.mem_append_right _ (List.mem_append_right _ (List.mem_append_right _ (List.mem_append_right _ (List.mem_append_left _ (List.mem_of_getElem? (i := 0) rfl))))))))) rfl rfl rfl (by decide +kernel) ⟨Nat.le_of_ble_eq_true rfl, Nat.le_of_ble_eq_true rfl⟩) hK hP (va_recv hK hP (ci := 1) (q0 := 1) rfl (wl_atE (by decide) rfl)) rfl hl.1 rfl (Nat.le_of_ble_eq_true rfl) d_LN_lineBehind_124 ⟨Nat.zero_le _, Nat.zero_le _⟩ ?_
                  refine z_ifb_eq hx hb (tgt := 133) d_LN_lineBehind_127 (by decide) (fun c_127 => ?_) (fun c_127 => ?_)
                  · refine z_iinc (v := ((k + 1 : Nat) : Int)) (lv' := [(6, .int (iI (((k + 1 : Nat) : Int)))), (7, .int (iI (0))), (5, .int (iI (((k + 1 : Nat) : Int)))), (4, .int (iI ((M 2 0 - M (30 + 4 * i) 1)))), (0, .ref (ad (3))), (1, .ref (ad (29 + 4 * i))), (2, .int (iI (((a : Nat) : Int)))), (3, .int (iI (x)))]) hx hb d_LN_lineBehind_133 hl (k := 2) rfl (by omega) (by decide) rfl (fun ls hl => ?_)
                    refine lv_goto (tgt := 31) hx hb d_LN_lineBehind_136 (by decide) ?_
                    have hnb : k + 1 = p_nb (M 7) (M 8) (p_tabs M i n) (M 2 0 - M (30 + 4 * i) 1) a b k bb r2 := by unfold p_nb; rw [if_pos ⟨hbr ▸ c_59, Or.inr (by omega)⟩]
                    have step : p_lx (M 7) (M 8) (p_tabs M i n) (M 2 0 - M (30 + 4 * i) 1) a b (f + 1) k bb r = if (a < k + 1 ∧ M 2 0 - M (30 + 4 * i) 1 < p_least (p_tabs M i n) r2) ∨ p_endl (M 7) k then (k + 1, r2) else p_lx (M 7) (M 8) (p_tabs M i n) (M 2 0 - M (30 + 4 * i) 1) a b f (k + 1) (k + 1) r2 := by conv => lhs; unfold p_lx; rw [if_pos (by omega), ← er2, ← hnb]
                    rw [if_neg (fun h => h.elim (fun h => by omega) (fun h => c_127 (hen ▸ h))), he] at step
                    rw [hM1] at hP hD
                    exact ih (k + 1) (k + 1) r2 (B + 60000) (by omega) (by omega) (by omega) hwr2 (by omega) step.symm H locs ls hP hD hS (lv_sub hl [0, 2, 3, 4, 5, 6, 7] rfl)
                  · refine lv_goto (tgt := 139) hx hb d_LN_lineBehind_130 (by decide) ?_
                    have hnb : k + 1 = p_nb (M 7) (M 8) (p_tabs M i n) (M 2 0 - M (30 + 4 * i) 1) a b k bb r2 := by unfold p_nb; rw [if_pos ⟨hbr ▸ c_59, Or.inr (by omega)⟩]
                    have step : p_lx (M 7) (M 8) (p_tabs M i n) (M 2 0 - M (30 + 4 * i) 1) a b (f + 1) k bb r = if (a < k + 1 ∧ M 2 0 - M (30 + 4 * i) 1 < p_least (p_tabs M i n) r2) ∨ p_endl (M 7) k then (k + 1, r2) else p_lx (M 7) (M 8) (p_tabs M i n) (M 2 0 - M (30 + 4 * i) 1) a b f (k + 1) (k + 1) r2 := by conv => lhs; unfold p_lx; rw [if_pos (by omega), ← er2, ← hnb]
                    rw [if_pos (Or.inr (hen ▸ c_127)), he] at step
                    rw [hM1] at hP hD
                    subst step
                    exact kk H locs ls hP hD hS (lv_sub hl [1] rfl)
              · refine z_iconst hx hb (z := 1) d_LN_lineBehind_106 ?_
                refine lv_goto (tgt := 111) hx hb d_LN_lineBehind_107 (by decide) ?_
                refine lv_istore (lv' := [(7, .int (iI (1))), (5, .int (iI (((k + 1 : Nat) : Int)))), (6, .int (iI (((k : Nat) : Int)))), (4, .int (iI ((M 2 0 - M (30 + 4 * i) 1)))), (0, .ref (ad (3))), (1, .ref (ad (29 + 4 * i))), (2, .int (iI (((a : Nat) : Int)))), (3, .int (iI (x)))]) hx hb d_LN_lineBehind_111 hl (by decide) rfl (fun ls hl => ?_)
                refine lv_iload hx hb d_LN_lineBehind_113 (lv_at hl 0 rfl) ?_
                refine z_if_ne hx hb (tgt := 139) d_LN_lineBehind_115 (by decide) ⟨by decide, by decide⟩ (fun c_115 => ?_) (fun c_115 => ?_)
                · have hnb : k + 1 = p_nb (M 7) (M 8) (p_tabs M i n) (M 2 0 - M (30 + 4 * i) 1) a b k bb r2 := by unfold p_nb; rw [if_pos ⟨hbr ▸ c_59, Or.inr (by omega)⟩]
                  have step : p_lx (M 7) (M 8) (p_tabs M i n) (M 2 0 - M (30 + 4 * i) 1) a b (f + 1) k bb r = if (a < k + 1 ∧ M 2 0 - M (30 + 4 * i) 1 < p_least (p_tabs M i n) r2) ∨ p_endl (M 7) k then (k + 1, r2) else p_lx (M 7) (M 8) (p_tabs M i n) (M 2 0 - M (30 + 4 * i) 1) a b f (k + 1) (k + 1) r2 := by conv => lhs; unfold p_lx; rw [if_pos (by omega), ← er2, ← hnb]
                  rw [if_pos (Or.inl ⟨by omega, by omega⟩), he] at step
                  rw [hM1] at hP hD
                  subst step
                  exact kk H locs ls hP hD hS (lv_sub hl [1] rfl)
                · exact absurd c_115 (by decide)
set_option maxHeartbeats 4000000 in
set_option maxRecDepth 100000 in
/-- Lines.lineBehind -/
theorem c_lineBehind (l : Launch) {D : va_G} {ad : Nat → Nat} {cs : pg_C} {rp : Option Nat} {M : Nat → Nat → Int} (sz : Nat) (i n a b : Nat) (x : Int) (hb6 : b ≤ 600) (ha : a ≤ b) (hp : wfP M i n) (ht : wfT M) (hbe : M (29 + 4 * i) 5 = ((b : Nat) : Int)) (hsh : 0 ≤ M (30 + 4 * i) 1 ∧ M (30 + 4 * i) 1 ≤ 5000) (hxb : 0 ≤ x ∧ x ≤ 10000) : Met l y_LN_lineBehind ws_LN_lineBehind ({ frames := 5, cells := 0, slots := 0, locals := 114 } : Room) (va_Pc [.ref (ad (3)), .ref (ad (29 + 4 * i)), .int (iI (((a : Nat) : Int))), .int (iI (x))] (rw_B D vwCl (pg_tys cs) (pg_w ad cs rp M) sz)) (va_Qi (fun (r : Int32) (_ : Unit) => r = iI ((((p_lx (M 7) (M 8) (p_tabs M i n) (M 2 0 - M (30 + 4 * i) 1) a b (b - a) a a (0, x, 0, 0)).1 : Nat) : Int))) (rw_E D vwCl (pg_tys cs) (pg_w ad cs rp M) (pg_w ad cs (some i) (rset M (p_lx (M 7) (M 8) (p_tabs M i n) (M 2 0 - M (30 + 4 * i) 1) a b (b - a) a a (0, x, 0, 0)).2)) sz) (va_A (pg_w ad cs rp M) sz)) 0 0 (va_A (pg_w ad cs rp M) sz) := by
  refine Met.ofW (cc := b_LN_lineBehind) (maxL := 8) (ret := (some .int)) (by decide) rfl ?_
  intro p e s m args below meth c s₁ B hml hv
  obtain ⟨rfl, hsz, hP, hK, hD0⟩ := hv
  have hx := B.exec
  have hb := B.bytes
  have hr := B.returns
  have hts := atoms_spec (ws := ws_LN_lineBehind) B.pre
  have hg : ∀ w ∈ gt, w.before _ s = true := fun w h => hts w (List.mem_cons_of_mem _ h)
  have hown : s.vm.findClass R_LN = some m.cls := findClass_of_methodNamed B.named
  have hlocks := B.notSynchronized
  subst hsz
  have hD := hD0.self (sz := s.heap.size)
  have hA : ∀ q : Nat, s.heap.size ≤ q → va_A (pg_w ad cs rp M) s.heap.size q := fun q h => Or.inr h
  have hS : va_S (va_A (pg_w ad cs rp M) s.heap.size) s.heap s.heap [] := va_S.rf
  have hl := lv_entry ([.ref (ad (3)), .ref (ad (29 + 4 * i)), .int (iI (((a : Nat) : Int))), .int (iI (x))]) (n := 8) (Nat.le_of_ble_eq_true rfl)
  rw [lg_entry_eq]
  generalize (lg_sl ([.ref (ad (3)), .ref (ad (29 + 4 * i)), .int (iI (((a : Nat) : Int))), .int (iI (x))]) ++ List.replicate (8 - (lg_sl ([.ref (ad (3)), .ref (ad (29 + 4 * i)), .int (iI (((a : Nat) : Int))), .int (iI (x))])).length) Slot.unset).toArray = ls at hl ⊢
  have hl : lv_has ls 8 [(0, .ref (ad (3))), (1, .ref (ad (29 + 4 * i))), (2, .int (iI (((a : Nat) : Int)))), (3, .int (iI (x)))] := hl
  obtain ⟨hi, hn, hs, hz, hz2⟩ := id hp
  refine lv_aload_n hx hb d_LN_lineBehind_0 rfl (lv_at hl 0 rfl) ?_
  refine z_get (ci := 3) (C := R_LN) (T := T_LN) (N := 6) (v := .ref (ad (2))) hx hb hg in_LN hown hK hP (3) (by decide) rfl rfl 4 (by decide) (hg _ (List.mem_append_right _ (List.mem_append_right _ (List.mem_append_right _ (List.mem_append_right _ (List.mem_append_left _ (List.mem_of_getElem? (i := 12) rfl))))))) (fun _ h9 => h9) rfl d_LN_lineBehind_1 ?_
  refine z_get (ci := 2) (C := R_SH) (T := T_SH) (N := 3) (v := .int (iI (M (2) 0))) hx hb hg in_SH hown hK hP (2) (by decide) rfl rfl 0 (by decide) (hg _ (List.mem_append_right _ (List.mem_append_right _ (List.mem_append_right _ (List.mem_append_left _ (List.mem_of_getElem? (i := 4) rfl)))))) (fun _ h9 => h9) rfl d_LN_lineBehind_4 ?_
  refine lv_aload_n hx hb d_LN_lineBehind_7 rfl (lv_at hl 1 rfl) ?_
  refine z_get (ci := 6) (C := R_PA) (T := T_PA) (N := 6) (v := .ref (ad (30 + 4 * i))) hx hb hg in_PA hown hK hP (29 + 4 * i) (by omega) (pg_par _ _ _ _ _) rfl 0 (by decide) (hg _ (List.mem_append_right _ (List.mem_append_left _ (List.mem_of_getElem? (i := 38) rfl)))) (fun _ h9 => h9) rfl d_LN_lineBehind_8 ?_
  refine z_iconst hx hb (z := 1) d_LN_lineBehind_11 ?_
  refine z_iald hx hb hK hP (30 + 4 * i) 0 (by omega) (fun r => pg_shp _ _ _ _ r) rfl (1) rfl (by decide) (by decide) d_LN_lineBehind_12 ?_
  refine z_isub hx hb d_LN_lineBehind_13 (v := (M (2) 0 - M (30 + 4 * i) (1))) rfl ?_
  refine lv_istore (lv' := [(4, .int (iI ((M (2) 0 - M (30 + 4 * i) (1))))), (0, .ref (ad (3))), (1, .ref (ad (29 + 4 * i))), (2, .int (iI (((a : Nat) : Int)))), (3, .int (iI (x)))]) hx hb d_LN_lineBehind_14 hl (by decide) rfl (fun ls hl => ?_)
  refine lv_iload_n hx hb d_LN_lineBehind_16 rfl (lv_at hl 3 rfl) ?_
  refine lv_istore (lv' := [(5, .int (iI (((a : Nat) : Int)))), (4, .int (iI ((M (2) 0 - M (30 + 4 * i) (1))))), (0, .ref (ad (3))), (1, .ref (ad (29 + 4 * i))), (2, .int (iI (((a : Nat) : Int)))), (3, .int (iI (x)))]) hx hb d_LN_lineBehind_17 hl (by decide) rfl (fun ls hl => ?_)
  refine lv_aload_n hx hb d_LN_lineBehind_19 rfl (lv_at hl 2 rfl) ?_
  refine z_get (ci := 3) (C := R_LN) (T := T_LN) (N := 6) (v := .ref (ad (4))) hx hb hg in_LN hown hK hP (3) (by decide) rfl rfl 5 (by decide) (hg _ (List.mem_append_right _ (List.mem_append_right _ (List.mem_append_right _ (List.mem_append_right _ (List.mem_append_left _ (List.mem_of_getElem? (i := 13) rfl))))))) (fun _ h9 => h9) rfl d_LN_lineBehind_20 ?_
  refine lv_aload_n hx hb d_LN_lineBehind_23 rfl (lv_at hl 3 rfl) ?_
  refine lv_iload_n hx hb d_LN_lineBehind_24 rfl (lv_at hl 5 rfl) ?_
  refine rw_Vv (As := [.ref (ad (29 + 4 * i)), .int (iI (x))]) (rest := []) (w' := (pg_w ad cs (some i) (rset M (0, x, 0, 0)))) ⟨hx, hb, hml, hown, hg⟩ (c_begin l _ i x hi) (cwV 2 hg (gt_V (List.mem_append_right _ (List.mem_append_right _ (List.mem_append_right _ (List.mem_append_right _ (List.mem_append_right _ (List.mem_append_right _ (List.mem_append_right _ (List.mem_append_left _ (List.mem_of_getElem? (i := 2) rfl))))))))) (List.mem_append_right _ (List.mem_append_right _ (List.mem_append_right _ (List.mem_append_right _ (List.mem_append_right _ (List.mem_append_right _ (List.mem_append_right _ (List.mem_append_left _ (List.mem_of_getElem? (i := 3) rfl))))))))) (List.mem_append_right _ (List.mem_append_right _ (List.mem_append_right _ (List.mem_append_right _ (List.mem_append_right _ (List.mem_append_right _ (List.mem_append_right _ (List.mem_append_left _ (List.mem_of_getElem? (i := 4) rfl))))))))) (List.mem_append_right _ (List.mem_append_left _ (List.mem_of_getElem? (i := 7) rfl))) (List.mem_append_right _ (List.mem_append_right _ (List.mem_append_right _ (List.mem_append_right _ (List.mem_append_right _ (List.mem_append_right _ (List.mem_append_right _ (List.mem_append_left _ (List.mem_of_getElem? (i := 5) rfl)))))))))) rfl rfl rfl (by decide +kernel) ⟨Nat.le_of_ble_eq_true rfl, Nat.le_of_ble_eq_true rfl⟩) hK hP hD hS hA (va_recv hK hP (ci := 4) (q0 := 4) rfl (wl_atE (by decide) rfl)) rfl hl.1 rfl (Nat.le_of_ble_eq_true rfl) d_LN_lineBehind_25 ⟨Nat.zero_le _, Nat.zero_le _⟩ (fun H locs hP hD hS => ?_)
  obtain ⟨M_1, eM_1⟩ : ∃ q_, q_ = rset M (0, x, 0, 0) := ⟨_, rfl⟩
  have hP : va_P D vwCl (pg_w ad cs (some i) M_1) H := by rw [eM_1]; exact hP
  have hD : va_D (va_A (pg_w ad cs rp M) s.heap.size) (pg_w ad cs (some i) M_1) := by rw [eM_1]; exact hD
  refine lv_iload_n hx hb d_LN_lineBehind_28 rfl (lv_at hl 4 rfl) ?_
  refine lv_istore (lv' := [(6, .int (iI (((a : Nat) : Int)))), (5, .int (iI (((a : Nat) : Int)))), (4, .int (iI ((M (2) 0 - M (30 + 4 * i) (1))))), (0, .ref (ad (3))), (1, .ref (ad (29 + 4 * i))), (2, .int (iI (((a : Nat) : Int)))), (3, .int (iI (x)))]) hx hb d_LN_lineBehind_29 hl (by decide) rfl (fun ls hl => ?_)
  rw [eM_1] at hP hD
  refine lp_lineBehind hx hb hml hg hown hK hA i n a b x hb6 ha hp ht hbe hsh (p_lx (M 7) (M 8) (p_tabs M i n) (M 2 0 - M (30 + 4 * i) 1) a b (b - a) a a (0, x, 0, 0)) (fun H locs ls hP hD hS hl => ?_) (b - a) a a (0, x, 0, 0) 10000 (by omega) (by omega) (by omega) ⟨Or.inl rfl, hxb.1, Int.le_refl 0, Int.le_refl 0, by show x + 0 ≤ 10000; omega⟩ (by omega) rfl H locs ls hP hD hS (lv_sub hl [0, 1, 2, 3, 4, 5, 6] rfl)
  refine lv_iload hx hb d_LN_lineBehind_139 (lv_at hl 0 rfl) ?_
  have hM : rset M (p_lx (M 7) (M 8) (p_tabs M i n) (M 2 0 - M (30 + 4 * i) 1) a b (b - a) a a (0, x, 0, 0)).2 = rset M (p_lx (M 7) (M 8) (p_tabs M i n) (M 2 0 - M (30 + 4 * i) 1) a b (b - a) a a (0, x, 0, 0)).2 := rfl
  have eW : pg_w ad cs (some i) (rset M (p_lx (M 7) (M 8) (p_tabs M i n) (M 2 0 - M (30 + 4 * i) 1) a b (b - a) a a (0, x, 0, 0)).2) = pg_w ad cs (some i) (rset M (p_lx (M 7) (M 8) (p_tabs M i n) (M 2 0 - M (30 + 4 * i) 1) a b (b - a) a a (0, x, 0, 0)).2) := by rw [hM]
  have hP := Eq.mp (congrArg (fun q => va_P D vwCl q _) eW) hP
  have hD := Eq.mp (congrArg (va_D _) eW) hD
  exact W.iret (v := iI ((((p_lx (M 7) (M 8) (p_tabs M i n) (M 2 0 - M (30 + 4 * i) 1) a b (b - a) a a (0, x, 0, 0)).1 : Nat) : Int))) hx hb hr (fun t ht hW => ⟨⟨_, (), rfl, rfl, by rw [ht]; exact hP, va_K.moved hW.alike hK, hD⟩, hS.F ht⟩) hS.2.2 d_LN_lineBehind_141
end
section
/-! What Lines writes, as functions on the memory. My own. -/
theorem mset_ne {M : Nat → Nat → Int} {k x j : Nat} {v : Int} (h : j ≠ k) : mset M k x v j = M j := va_up_ne _ _ h
theorem mset_at (M : Nat → Nat → Int) (k x : Nat) (v : Int) : mset M k x v k = va_up (M k) x v := va_up_self _ _ _
theorem mset_same (M : Nat → Nat → Int) (k x : Nat) (v : Int) : mset M k x v k x = v := by rw [mset_at, va_up_self]
/-- the memories agree but for the rows lo .. hi -/
def eqb (lo hi : Nat) (M N : Nat → Nat → Int) : Prop := ∀ j, j < lo ∨ hi < j → M j = N j
theorem eqb_rf {lo hi : Nat} {M : Nat → Nat → Int} : eqb lo hi M M := fun _ _ => rfl
theorem eqb_set {lo hi : Nat} {M N : Nat → Nat → Int} {k x : Nat} {v : Int} (h : eqb lo hi M N) (h1 : lo ≤ k) (h2 : k ≤ hi) : eqb lo hi (mset M k x v) N := fun j hj => by
  rw [mset_ne (by omega)]
  exact h j hj
theorem eqb_tr {lo hi : Nat} {M N K : Nat → Nat → Int} (h : eqb lo hi M N) (g : eqb lo hi N K) : eqb lo hi M K := fun j hj => (h j hj).trans (g j hj)
theorem eqb_wfT {lo hi : Nat} {M N : Nat → Nat → Int} (h : eqb lo hi M N) (hl : 10 ≤ lo) (ht : wfT N) : wfT M := by
  unfold wfT at ht ⊢
  rw [h 7 (by omega), h 8 (by omega), h 9 (by omega), h 2 (by omega)]
  exact ht
theorem eqb_wfP {lo hi i n : Nat} {M N : Nat → Nat → Int} (h : eqb lo hi M N) (hl : hi < 29) (ht : wfP N i n) : wfP M i n := by
  unfold wfP at ht ⊢
  rw [h (29 + 4 * i) (by omega), h (31 + 4 * i) (by omega), h (32 + 4 * i) (by omega)]
  exact ht
theorem p_wbtb {kd wd : Nat → Int} {so b : Nat} (hw : ∀ j, 0 ≤ wd j ∧ wd j ≤ 4000) : ∀ (f i : Nat) (s : Int), s ≤ p_wbt kd wd so b f i s ∧ p_wbt kd wd so b f i s ≤ s + 4000 * ((f : Nat) : Int) := by
  intro f
  induction f with
  | zero => intro i s; unfold p_wbt; omega
  | succ f ih =>
    intro i s
    unfold p_wbt
    split
    · have h1 := ih (i + 1) (s + p_wid kd wd i (decide (i + 1 = b)))
      have h2 := p_widb (kd := kd) (wd := wd) (i := i) (la := decide (i + 1 = b)) (hw i)
      omega
    · omega
def q_wide (kd wd : Nat → Int) (t : p_T) (so b k : Nat) (x : Int) : Int := if kd k = 2 then p_tab t.1 t.2.1 t.2.2.1 x (p_wbt kd wd so b (so - (k + 1)) (k + 1) 0) t.2.2.2 else p_wid kd wd k (decide (k + 1 = b))
def q_ps (kd wd : Nat → Int) (t : p_T) (ln : Int) (so b : Nat) : Nat → Nat → Int → (Nat → Nat → Int) → (Nat → Nat → Int)
  | 0, _, _, M => M
  | f + 1, k, x, M => q_ps kd wd t ln so b f (k + 1) (x + q_wide kd wd t so b k x) (mset (mset (mset M 23 k ln) 24 k x) 25 k (q_wide kd wd t so b k x))
def q_gc (kd : Nat → Int) : Nat → Nat → Nat → Nat
  | 0, _, g => g
  | f + 1, k, g => q_gc kd f (k + 1) (g + if kd k = 1 then 1 else 0)
def q_wg (kd : Nat → Int) (so : Nat) (each : Int) : Nat → Nat → Int → Int → (Nat → Nat → Int) → (Nat → Nat → Int)
  | 0, _, _, _, M => M
  | f + 1, k, rem, mv, M =>
    if k < so ∧ kd k = 1 then q_wg kd so each f (k + 1) (rem - 1) (mv + (each + if 0 < rem then 1 else 0)) (mset (mset M 24 k (M 24 k + mv)) 25 k (M 25 k + (each + if 0 < rem then 1 else 0)))
    else q_wg kd so each f (k + 1) rem mv (mset M 24 k (M 24 k + mv))
def q_mv (mv : Int) : Nat → Nat → (Nat → Nat → Int) → (Nat → Nat → Int)
  | 0, _, M => M
  | f + 1, k, M => q_mv mv f (k + 1) (mset M 24 k (M 24 k + mv))
theorem q_gc_le (kd : Nat → Int) : ∀ f k g, g ≤ q_gc kd f k g ∧ q_gc kd f k g ≤ g + f := by
  intro f
  induction f with
  | zero => intro k g; unfold q_gc; omega
  | succ f ih =>
    intro k g
    unfold q_gc
    have := ih (k + 1) (g + if kd k = 1 then 1 else 0)
    split at this <;> (rename_i h; simp only [h, if_true, if_false] at *; omega)
theorem q_ps_eq (kd wd : Nat → Int) (t : p_T) (ln : Int) (so b : Nat) : ∀ f k x M, eqb 23 25 (q_ps kd wd t ln so b f k x M) M := by
  intro f
  induction f with
  | zero => intro k x M; exact eqb_rf
  | succ f ih =>
    intro k x M
    exact eqb_tr (ih _ _ _) (eqb_set (eqb_set (eqb_set eqb_rf (by omega) (by omega)) (by omega) (by omega)) (by omega) (by omega))
theorem q_wg_eq (kd : Nat → Int) (so : Nat) (each : Int) : ∀ f k rem mv M, eqb 23 25 (q_wg kd so each f k rem mv M) M := by
  intro f
  induction f with
  | zero => intro k rem mv M; exact eqb_rf
  | succ f ih =>
    intro k rem mv M
    unfold q_wg
    split
    · exact eqb_tr (ih _ _ _ _) (eqb_set (eqb_set eqb_rf (by omega) (by omega)) (by omega) (by omega))
    · exact eqb_tr (ih _ _ _ _) (eqb_set eqb_rf (by omega) (by omega))
theorem q_mv_eq (mv : Int) : ∀ f k M, eqb 23 25 (q_mv mv f k M) M := by
  intro f
  induction f with
  | zero => intro k M; exact eqb_rf
  | succ f ih =>
    intro k M
    exact eqb_tr (ih _ _) (eqb_set eqb_rf (by omega) (by omega))
end
section
theorem d_LN_layAll_0 : decode b_LN_layAll 0 = .ok (.aload_n 0, 1) := by decide +kernel
theorem d_LN_layAll_1 : decode b_LN_layAll 1 = .ok (.iconst 0, 1) := by decide +kernel
theorem d_LN_layAll_2 : decode b_LN_layAll 2 = .ok (.putfield 36, 3) := by decide +kernel
theorem d_LN_layAll_5 : decode b_LN_layAll 5 = .ok (.iconst 0, 1) := by decide +kernel
theorem d_LN_layAll_6 : decode b_LN_layAll 6 = .ok (.istore_n 1, 1) := by decide +kernel
theorem d_LN_layAll_7 : decode b_LN_layAll 7 = .ok (.iload_n 1, 1) := by decide +kernel
theorem d_LN_layAll_8 : decode b_LN_layAll 8 = .ok (.aload_n 0, 1) := by decide +kernel
theorem d_LN_layAll_9 : decode b_LN_layAll 9 = .ok (.getfield 19, 3) := by decide +kernel
theorem d_LN_layAll_12 : decode b_LN_layAll 12 = .ok (.getfield 40, 3) := by decide +kernel
theorem d_LN_layAll_15 : decode b_LN_layAll 15 = .ok (.if_icmp .ge 14, 3) := by decide +kernel
theorem d_LN_layAll_18 : decode b_LN_layAll 18 = .ok (.aload_n 0, 1) := by decide +kernel
theorem d_LN_layAll_19 : decode b_LN_layAll 19 = .ok (.iload_n 1, 1) := by decide +kernel
theorem d_LN_layAll_20 : decode b_LN_layAll 20 = .ok (.invokevirtual 45, 3) := by decide +kernel
theorem d_LN_layAll_23 : decode b_LN_layAll 23 = .ok (.iinc 1 1, 3) := by decide +kernel
theorem d_LN_layAll_26 : decode b_LN_layAll 26 = .ok (.goto (-19), 3) := by decide +kernel
theorem d_LN_layAll_29 : decode b_LN_layAll 29 = .ok (.return_, 1) := by decide +kernel
theorem d_LN_layLinesOf_0 : decode b_LN_layLinesOf 0 = .ok (.aload_n 0, 1) := by decide +kernel
theorem d_LN_layLinesOf_1 : decode b_LN_layLinesOf 1 = .ok (.getfield 19, 3) := by decide +kernel
theorem d_LN_layLinesOf_4 : decode b_LN_layLinesOf 4 = .ok (.getfield 49, 3) := by decide +kernel
theorem d_LN_layLinesOf_7 : decode b_LN_layLinesOf 7 = .ok (.iload_n 1, 1) := by decide +kernel
theorem d_LN_layLinesOf_8 : decode b_LN_layLinesOf 8 = .ok (.aaload, 1) := by decide +kernel
theorem d_LN_layLinesOf_9 : decode b_LN_layLinesOf 9 = .ok (.astore_n 2, 1) := by decide +kernel
theorem d_LN_layLinesOf_10 : decode b_LN_layLinesOf 10 = .ok (.aload_n 2, 1) := by decide +kernel
theorem d_LN_layLinesOf_11 : decode b_LN_layLinesOf 11 = .ok (.getfield 53, 3) := by decide +kernel
theorem d_LN_layLinesOf_14 : decode b_LN_layLinesOf 14 = .ok (.iconst 0, 1) := by decide +kernel
theorem d_LN_layLinesOf_15 : decode b_LN_layLinesOf 15 = .ok (.iaload, 1) := by decide +kernel
theorem d_LN_layLinesOf_16 : decode b_LN_layLinesOf 16 = .ok (.istore_n 3, 1) := by decide +kernel
theorem d_LN_layLinesOf_17 : decode b_LN_layLinesOf 17 = .ok (.iconst 0, 1) := by decide +kernel
theorem d_LN_layLinesOf_18 : decode b_LN_layLinesOf 18 = .ok (.iload_n 3, 1) := by decide +kernel
theorem d_LN_layLinesOf_19 : decode b_LN_layLinesOf 19 = .ok (.aload_n 2, 1) := by decide +kernel
theorem d_LN_layLinesOf_20 : decode b_LN_layLinesOf 20 = .ok (.getfield 53, 3) := by decide +kernel
theorem d_LN_layLinesOf_23 : decode b_LN_layLinesOf 23 = .ok (.iconst 2, 1) := by decide +kernel
theorem d_LN_layLinesOf_24 : decode b_LN_layLinesOf 24 = .ok (.iaload, 1) := by decide +kernel
theorem d_LN_layLinesOf_25 : decode b_LN_layLinesOf 25 = .ok (.iadd, 1) := by decide +kernel
theorem d_LN_layLinesOf_26 : decode b_LN_layLinesOf 26 = .ok (.invokestatic 59, 3) := by decide +kernel
theorem d_LN_layLinesOf_29 : decode b_LN_layLinesOf 29 = .ok (.istore 4, 2) := by decide +kernel
theorem d_LN_layLinesOf_31 : decode b_LN_layLinesOf 31 = .ok (.aload_n 2, 1) := by decide +kernel
theorem d_LN_layLinesOf_32 : decode b_LN_layLinesOf 32 = .ok (.getfield 65, 3) := by decide +kernel
theorem d_LN_layLinesOf_35 : decode b_LN_layLinesOf 35 = .ok (.aload_n 2, 1) := by decide +kernel
theorem d_LN_layLinesOf_36 : decode b_LN_layLinesOf 36 = .ok (.getfield 68, 3) := by decide +kernel
theorem d_LN_layLinesOf_39 : decode b_LN_layLinesOf 39 = .ok (.if_icmp .lt 18, 3) := by decide +kernel
theorem d_LN_layLinesOf_42 : decode b_LN_layLinesOf 42 = .ok (.aload_n 0, 1) := by decide +kernel
theorem d_LN_layLinesOf_43 : decode b_LN_layLinesOf 43 = .ok (.iload_n 1, 1) := by decide +kernel
theorem d_LN_layLinesOf_44 : decode b_LN_layLinesOf 44 = .ok (.aload_n 2, 1) := by decide +kernel
theorem d_LN_layLinesOf_45 : decode b_LN_layLinesOf 45 = .ok (.getfield 65, 3) := by decide +kernel
theorem d_LN_layLinesOf_48 : decode b_LN_layLinesOf 48 = .ok (.aload_n 2, 1) := by decide +kernel
theorem d_LN_layLinesOf_49 : decode b_LN_layLinesOf 49 = .ok (.getfield 65, 3) := by decide +kernel
theorem d_LN_layLinesOf_52 : decode b_LN_layLinesOf 52 = .ok (.iload 4, 2) := by decide +kernel
theorem d_LN_layLinesOf_54 : decode b_LN_layLinesOf 54 = .ok (.invokevirtual 71, 3) := by decide +kernel
theorem d_LN_layLinesOf_57 : decode b_LN_layLinesOf 57 = .ok (.aload_n 2, 1) := by decide +kernel
theorem d_LN_layLinesOf_58 : decode b_LN_layLinesOf 58 = .ok (.getfield 65, 3) := by decide +kernel
theorem d_LN_layLinesOf_61 : decode b_LN_layLinesOf 61 = .ok (.istore 5, 2) := by decide +kernel
theorem d_LN_layLinesOf_63 : decode b_LN_layLinesOf 63 = .ok (.iload 5, 2) := by decide +kernel
theorem d_LN_layLinesOf_65 : decode b_LN_layLinesOf 65 = .ok (.aload_n 2, 1) := by decide +kernel
theorem d_LN_layLinesOf_66 : decode b_LN_layLinesOf 66 = .ok (.getfield 68, 3) := by decide +kernel
theorem d_LN_layLinesOf_69 : decode b_LN_layLinesOf 69 = .ok (.if_icmp .ge 42, 3) := by decide +kernel
theorem d_LN_layLinesOf_72 : decode b_LN_layLinesOf 72 = .ok (.iload 5, 2) := by decide +kernel
theorem d_LN_layLinesOf_74 : decode b_LN_layLinesOf 74 = .ok (.iconst 1, 1) := by decide +kernel
theorem d_LN_layLinesOf_75 : decode b_LN_layLinesOf 75 = .ok (.iadd, 1) := by decide +kernel
theorem d_LN_layLinesOf_76 : decode b_LN_layLinesOf 76 = .ok (.aload_n 0, 1) := by decide +kernel
theorem d_LN_layLinesOf_77 : decode b_LN_layLinesOf 77 = .ok (.aload_n 2, 1) := by decide +kernel
theorem d_LN_layLinesOf_78 : decode b_LN_layLinesOf 78 = .ok (.iload 5, 2) := by decide +kernel
theorem d_LN_layLinesOf_80 : decode b_LN_layLinesOf 80 = .ok (.iload 4, 2) := by decide +kernel
theorem d_LN_layLinesOf_82 : decode b_LN_layLinesOf 82 = .ok (.invokevirtual 75, 3) := by decide +kernel
theorem d_LN_layLinesOf_85 : decode b_LN_layLinesOf 85 = .ok (.invokestatic 59, 3) := by decide +kernel
theorem d_LN_layLinesOf_88 : decode b_LN_layLinesOf 88 = .ok (.istore 6, 2) := by decide +kernel
theorem d_LN_layLinesOf_90 : decode b_LN_layLinesOf 90 = .ok (.aload_n 0, 1) := by decide +kernel
theorem d_LN_layLinesOf_91 : decode b_LN_layLinesOf 91 = .ok (.iload_n 1, 1) := by decide +kernel
theorem d_LN_layLinesOf_92 : decode b_LN_layLinesOf 92 = .ok (.iload 5, 2) := by decide +kernel
theorem d_LN_layLinesOf_94 : decode b_LN_layLinesOf 94 = .ok (.iload 6, 2) := by decide +kernel
theorem d_LN_layLinesOf_96 : decode b_LN_layLinesOf 96 = .ok (.iload 4, 2) := by decide +kernel
theorem d_LN_layLinesOf_98 : decode b_LN_layLinesOf 98 = .ok (.invokevirtual 71, 3) := by decide +kernel
theorem d_LN_layLinesOf_101 : decode b_LN_layLinesOf 101 = .ok (.iload 6, 2) := by decide +kernel
theorem d_LN_layLinesOf_103 : decode b_LN_layLinesOf 103 = .ok (.istore 5, 2) := by decide +kernel
theorem d_LN_layLinesOf_105 : decode b_LN_layLinesOf 105 = .ok (.iload_n 3, 1) := by decide +kernel
theorem d_LN_layLinesOf_106 : decode b_LN_layLinesOf 106 = .ok (.istore 4, 2) := by decide +kernel
theorem d_LN_layLinesOf_108 : decode b_LN_layLinesOf 108 = .ok (.goto (-45), 3) := by decide +kernel
theorem d_LN_layLinesOf_111 : decode b_LN_layLinesOf 111 = .ok (.return_, 1) := by decide +kernel
theorem d_LN_addLine_0 : decode b_LN_addLine 0 = .ok (.aload_n 0, 1) := by decide +kernel
theorem d_LN_addLine_1 : decode b_LN_addLine 1 = .ok (.getfield 19, 3) := by decide +kernel
theorem d_LN_addLine_4 : decode b_LN_addLine 4 = .ok (.getfield 49, 3) := by decide +kernel
theorem d_LN_addLine_7 : decode b_LN_addLine 7 = .ok (.iload_n 1, 1) := by decide +kernel
theorem d_LN_addLine_8 : decode b_LN_addLine 8 = .ok (.aaload, 1) := by decide +kernel
theorem d_LN_addLine_9 : decode b_LN_addLine 9 = .ok (.astore 5, 2) := by decide +kernel
theorem d_LN_addLine_11 : decode b_LN_addLine 11 = .ok (.aload_n 0, 1) := by decide +kernel
theorem d_LN_addLine_12 : decode b_LN_addLine 12 = .ok (.getfield 19, 3) := by decide +kernel
theorem d_LN_addLine_15 : decode b_LN_addLine 15 = .ok (.iload_n 2, 1) := by decide +kernel
theorem d_LN_addLine_16 : decode b_LN_addLine 16 = .ok (.iload_n 3, 1) := by decide +kernel
theorem d_LN_addLine_17 : decode b_LN_addLine 17 = .ok (.invokevirtual 107, 3) := by decide +kernel
theorem d_LN_addLine_20 : decode b_LN_addLine 20 = .ok (.istore 6, 2) := by decide +kernel
theorem d_LN_addLine_22 : decode b_LN_addLine 22 = .ok (.aload_n 0, 1) := by decide +kernel
theorem d_LN_addLine_23 : decode b_LN_addLine 23 = .ok (.aload 5, 2) := by decide +kernel
theorem d_LN_addLine_25 : decode b_LN_addLine 25 = .ok (.iload_n 2, 1) := by decide +kernel
theorem d_LN_addLine_26 : decode b_LN_addLine 26 = .ok (.iload_n 3, 1) := by decide +kernel
theorem d_LN_addLine_27 : decode b_LN_addLine 27 = .ok (.iload 4, 2) := by decide +kernel
theorem d_LN_addLine_29 : decode b_LN_addLine 29 = .ok (.invokevirtual 110, 3) := by decide +kernel
theorem d_LN_addLine_32 : decode b_LN_addLine 32 = .ok (.aload_n 0, 1) := by decide +kernel
theorem d_LN_addLine_33 : decode b_LN_addLine 33 = .ok (.getfield 11, 3) := by decide +kernel
theorem d_LN_addLine_36 : decode b_LN_addLine 36 = .ok (.iconst 0, 1) := by decide +kernel
theorem d_LN_addLine_37 : decode b_LN_addLine 37 = .ok (.aaload, 1) := by decide +kernel
theorem d_LN_addLine_38 : decode b_LN_addLine 38 = .ok (.aload_n 0, 1) := by decide +kernel
theorem d_LN_addLine_39 : decode b_LN_addLine 39 = .ok (.getfield 36, 3) := by decide +kernel
theorem d_LN_addLine_42 : decode b_LN_addLine 42 = .ok (.iload_n 1, 1) := by decide +kernel
theorem d_LN_addLine_43 : decode b_LN_addLine 43 = .ok (.iastore, 1) := by decide +kernel
theorem d_LN_addLine_44 : decode b_LN_addLine 44 = .ok (.aload_n 0, 1) := by decide +kernel
theorem d_LN_addLine_45 : decode b_LN_addLine 45 = .ok (.getfield 11, 3) := by decide +kernel
theorem d_LN_addLine_48 : decode b_LN_addLine 48 = .ok (.iconst 1, 1) := by decide +kernel
theorem d_LN_addLine_49 : decode b_LN_addLine 49 = .ok (.aaload, 1) := by decide +kernel
theorem d_LN_addLine_50 : decode b_LN_addLine 50 = .ok (.aload_n 0, 1) := by decide +kernel
theorem d_LN_addLine_51 : decode b_LN_addLine 51 = .ok (.getfield 36, 3) := by decide +kernel
theorem d_LN_addLine_54 : decode b_LN_addLine 54 = .ok (.iload_n 2, 1) := by decide +kernel
theorem d_LN_addLine_55 : decode b_LN_addLine 55 = .ok (.iastore, 1) := by decide +kernel
theorem d_LN_addLine_56 : decode b_LN_addLine 56 = .ok (.aload_n 0, 1) := by decide +kernel
theorem d_LN_addLine_57 : decode b_LN_addLine 57 = .ok (.getfield 11, 3) := by decide +kernel
theorem d_LN_addLine_60 : decode b_LN_addLine 60 = .ok (.iconst 2, 1) := by decide +kernel
theorem d_LN_addLine_61 : decode b_LN_addLine 61 = .ok (.aaload, 1) := by decide +kernel
theorem d_LN_addLine_62 : decode b_LN_addLine 62 = .ok (.aload_n 0, 1) := by decide +kernel
theorem d_LN_addLine_63 : decode b_LN_addLine 63 = .ok (.getfield 36, 3) := by decide +kernel
theorem d_LN_addLine_66 : decode b_LN_addLine 66 = .ok (.iload_n 3, 1) := by decide +kernel
theorem d_LN_addLine_67 : decode b_LN_addLine 67 = .ok (.iload_n 2, 1) := by decide +kernel
theorem d_LN_addLine_68 : decode b_LN_addLine 68 = .ok (.isub, 1) := by decide +kernel
theorem d_LN_addLine_69 : decode b_LN_addLine 69 = .ok (.iastore, 1) := by decide +kernel
theorem d_LN_addLine_70 : decode b_LN_addLine 70 = .ok (.aload_n 0, 1) := by decide +kernel
theorem d_LN_addLine_71 : decode b_LN_addLine 71 = .ok (.getfield 11, 3) := by decide +kernel
theorem d_LN_addLine_74 : decode b_LN_addLine 74 = .ok (.iconst 3, 1) := by decide +kernel
theorem d_LN_addLine_75 : decode b_LN_addLine 75 = .ok (.aaload, 1) := by decide +kernel
theorem d_LN_addLine_76 : decode b_LN_addLine 76 = .ok (.aload_n 0, 1) := by decide +kernel
theorem d_LN_addLine_77 : decode b_LN_addLine 77 = .ok (.getfield 36, 3) := by decide +kernel
theorem d_LN_addLine_80 : decode b_LN_addLine 80 = .ok (.iload 4, 2) := by decide +kernel
theorem d_LN_addLine_82 : decode b_LN_addLine 82 = .ok (.iastore, 1) := by decide +kernel
theorem d_LN_addLine_83 : decode b_LN_addLine 83 = .ok (.aload_n 0, 1) := by decide +kernel
theorem d_LN_addLine_84 : decode b_LN_addLine 84 = .ok (.getfield 11, 3) := by decide +kernel
theorem d_LN_addLine_87 : decode b_LN_addLine 87 = .ok (.iconst 4, 1) := by decide +kernel
theorem d_LN_addLine_88 : decode b_LN_addLine 88 = .ok (.aaload, 1) := by decide +kernel
theorem d_LN_addLine_89 : decode b_LN_addLine 89 = .ok (.aload_n 0, 1) := by decide +kernel
theorem d_LN_addLine_90 : decode b_LN_addLine 90 = .ok (.getfield 36, 3) := by decide +kernel
theorem d_LN_addLine_93 : decode b_LN_addLine 93 = .ok (.iload 6, 2) := by decide +kernel
theorem d_LN_addLine_95 : decode b_LN_addLine 95 = .ok (.iload_n 2, 1) := by decide +kernel
theorem d_LN_addLine_96 : decode b_LN_addLine 96 = .ok (.if_icmp .le 29, 3) := by decide +kernel
theorem d_LN_addLine_99 : decode b_LN_addLine 99 = .ok (.aload_n 0, 1) := by decide +kernel
theorem d_LN_addLine_100 : decode b_LN_addLine 100 = .ok (.getfield 16, 3) := by decide +kernel
theorem d_LN_addLine_103 : decode b_LN_addLine 103 = .ok (.iconst 1, 1) := by decide +kernel
theorem d_LN_addLine_104 : decode b_LN_addLine 104 = .ok (.aaload, 1) := by decide +kernel
theorem d_LN_addLine_105 : decode b_LN_addLine 105 = .ok (.iload 6, 2) := by decide +kernel
theorem d_LN_addLine_107 : decode b_LN_addLine 107 = .ok (.iconst 1, 1) := by decide +kernel
theorem d_LN_addLine_108 : decode b_LN_addLine 108 = .ok (.isub, 1) := by decide +kernel
theorem d_LN_addLine_109 : decode b_LN_addLine 109 = .ok (.iaload, 1) := by decide +kernel
theorem d_LN_addLine_110 : decode b_LN_addLine 110 = .ok (.aload_n 0, 1) := by decide +kernel
theorem d_LN_addLine_111 : decode b_LN_addLine 111 = .ok (.getfield 16, 3) := by decide +kernel
theorem d_LN_addLine_114 : decode b_LN_addLine 114 = .ok (.iconst 2, 1) := by decide +kernel
theorem d_LN_addLine_115 : decode b_LN_addLine 115 = .ok (.aaload, 1) := by decide +kernel
theorem d_LN_addLine_116 : decode b_LN_addLine 116 = .ok (.iload 6, 2) := by decide +kernel
theorem d_LN_addLine_118 : decode b_LN_addLine 118 = .ok (.iconst 1, 1) := by decide +kernel
theorem d_LN_addLine_119 : decode b_LN_addLine 119 = .ok (.isub, 1) := by decide +kernel
theorem d_LN_addLine_120 : decode b_LN_addLine 120 = .ok (.iaload, 1) := by decide +kernel
theorem d_LN_addLine_121 : decode b_LN_addLine 121 = .ok (.iadd, 1) := by decide +kernel
theorem d_LN_addLine_122 : decode b_LN_addLine 122 = .ok (.goto 5, 3) := by decide +kernel
theorem d_LN_addLine_125 : decode b_LN_addLine 125 = .ok (.iload 4, 2) := by decide +kernel
theorem d_LN_addLine_127 : decode b_LN_addLine 127 = .ok (.iastore, 1) := by decide +kernel
theorem d_LN_addLine_128 : decode b_LN_addLine 128 = .ok (.aload_n 0, 1) := by decide +kernel
theorem d_LN_addLine_129 : decode b_LN_addLine 129 = .ok (.getfield 11, 3) := by decide +kernel
theorem d_LN_addLine_132 : decode b_LN_addLine 132 = .ok (.iconst 5, 1) := by decide +kernel
theorem d_LN_addLine_133 : decode b_LN_addLine 133 = .ok (.aaload, 1) := by decide +kernel
theorem d_LN_addLine_134 : decode b_LN_addLine 134 = .ok (.aload_n 0, 1) := by decide +kernel
theorem d_LN_addLine_135 : decode b_LN_addLine 135 = .ok (.getfield 36, 3) := by decide +kernel
theorem d_LN_addLine_138 : decode b_LN_addLine 138 = .ok (.aload_n 0, 1) := by decide +kernel
theorem d_LN_addLine_139 : decode b_LN_addLine 139 = .ok (.aload 5, 2) := by decide +kernel
theorem d_LN_addLine_141 : decode b_LN_addLine 141 = .ok (.iload_n 2, 1) := by decide +kernel
theorem d_LN_addLine_142 : decode b_LN_addLine 142 = .ok (.iload_n 3, 1) := by decide +kernel
theorem d_LN_addLine_143 : decode b_LN_addLine 143 = .ok (.invokevirtual 114, 3) := by decide +kernel
theorem d_LN_addLine_146 : decode b_LN_addLine 146 = .ok (.iastore, 1) := by decide +kernel
theorem d_LN_addLine_147 : decode b_LN_addLine 147 = .ok (.aload_n 0, 1) := by decide +kernel
theorem d_LN_addLine_148 : decode b_LN_addLine 148 = .ok (.aload 5, 2) := by decide +kernel
theorem d_LN_addLine_150 : decode b_LN_addLine 150 = .ok (.iload_n 2, 1) := by decide +kernel
theorem d_LN_addLine_151 : decode b_LN_addLine 151 = .ok (.iload_n 3, 1) := by decide +kernel
theorem d_LN_addLine_152 : decode b_LN_addLine 152 = .ok (.invokevirtual 117, 3) := by decide +kernel
theorem d_LN_addLine_155 : decode b_LN_addLine 155 = .ok (.aload_n 0, 1) := by decide +kernel
theorem d_LN_addLine_156 : decode b_LN_addLine 156 = .ok (.dup, 1) := by decide +kernel
theorem d_LN_addLine_157 : decode b_LN_addLine 157 = .ok (.getfield 36, 3) := by decide +kernel
theorem d_LN_addLine_160 : decode b_LN_addLine 160 = .ok (.iconst 1, 1) := by decide +kernel
theorem d_LN_addLine_161 : decode b_LN_addLine 161 = .ok (.iadd, 1) := by decide +kernel
theorem d_LN_addLine_162 : decode b_LN_addLine 162 = .ok (.putfield 36, 3) := by decide +kernel
theorem d_LN_addLine_165 : decode b_LN_addLine 165 = .ok (.return_, 1) := by decide +kernel
theorem d_LN_placeSigns_0 : decode b_LN_placeSigns 0 = .ok (.aload_n 0, 1) := by decide +kernel
theorem d_LN_placeSigns_1 : decode b_LN_placeSigns 1 = .ok (.getfield 19, 3) := by decide +kernel
theorem d_LN_placeSigns_4 : decode b_LN_placeSigns 4 = .ok (.iload_n 2, 1) := by decide +kernel
theorem d_LN_placeSigns_5 : decode b_LN_placeSigns 5 = .ok (.iload_n 3, 1) := by decide +kernel
theorem d_LN_placeSigns_6 : decode b_LN_placeSigns 6 = .ok (.invokevirtual 107, 3) := by decide +kernel
theorem d_LN_placeSigns_9 : decode b_LN_placeSigns 9 = .ok (.istore 5, 2) := by decide +kernel
theorem d_LN_placeSigns_11 : decode b_LN_placeSigns 11 = .ok (.iload 4, 2) := by decide +kernel
theorem d_LN_placeSigns_13 : decode b_LN_placeSigns 13 = .ok (.istore 6, 2) := by decide +kernel
theorem d_LN_placeSigns_15 : decode b_LN_placeSigns 15 = .ok (.iload_n 2, 1) := by decide +kernel
theorem d_LN_placeSigns_16 : decode b_LN_placeSigns 16 = .ok (.istore 7, 2) := by decide +kernel
theorem d_LN_placeSigns_18 : decode b_LN_placeSigns 18 = .ok (.iload 7, 2) := by decide +kernel
theorem d_LN_placeSigns_20 : decode b_LN_placeSigns 20 = .ok (.iload_n 3, 1) := by decide +kernel
theorem d_LN_placeSigns_21 : decode b_LN_placeSigns 21 = .ok (.if_icmp .ge 114, 3) := by decide +kernel
theorem d_LN_placeSigns_24 : decode b_LN_placeSigns 24 = .ok (.aload_n 0, 1) := by decide +kernel
theorem d_LN_placeSigns_25 : decode b_LN_placeSigns 25 = .ok (.getfield 19, 3) := by decide +kernel
theorem d_LN_placeSigns_28 : decode b_LN_placeSigns 28 = .ok (.getfield 121, 3) := by decide +kernel
theorem d_LN_placeSigns_31 : decode b_LN_placeSigns 31 = .ok (.iload 7, 2) := by decide +kernel
theorem d_LN_placeSigns_33 : decode b_LN_placeSigns 33 = .ok (.iaload, 1) := by decide +kernel
theorem d_LN_placeSigns_34 : decode b_LN_placeSigns 34 = .ok (.iconst 2, 1) := by decide +kernel
theorem d_LN_placeSigns_35 : decode b_LN_placeSigns 35 = .ok (.if_icmp .ne 28, 3) := by decide +kernel
theorem d_LN_placeSigns_38 : decode b_LN_placeSigns 38 = .ok (.aload_n 1, 1) := by decide +kernel
theorem d_LN_placeSigns_39 : decode b_LN_placeSigns 39 = .ok (.iload 6, 2) := by decide +kernel
theorem d_LN_placeSigns_41 : decode b_LN_placeSigns 41 = .ok (.aload_n 0, 1) := by decide +kernel
theorem d_LN_placeSigns_42 : decode b_LN_placeSigns 42 = .ok (.iload 7, 2) := by decide +kernel
theorem d_LN_placeSigns_44 : decode b_LN_placeSigns 44 = .ok (.iload 5, 2) := by decide +kernel
theorem d_LN_placeSigns_46 : decode b_LN_placeSigns 46 = .ok (.iload_n 3, 1) := by decide +kernel
theorem d_LN_placeSigns_47 : decode b_LN_placeSigns 47 = .ok (.invokevirtual 124, 3) := by decide +kernel
theorem d_LN_placeSigns_50 : decode b_LN_placeSigns 50 = .ok (.aload_n 0, 1) := by decide +kernel
theorem d_LN_placeSigns_51 : decode b_LN_placeSigns 51 = .ok (.getfield 23, 3) := by decide +kernel
theorem d_LN_placeSigns_54 : decode b_LN_placeSigns 54 = .ok (.getfield 128, 3) := by decide +kernel
theorem d_LN_placeSigns_57 : decode b_LN_placeSigns 57 = .ok (.invokevirtual 131, 3) := by decide +kernel
theorem d_LN_placeSigns_60 : decode b_LN_placeSigns 60 = .ok (.goto 25, 3) := by decide +kernel
theorem d_LN_placeSigns_63 : decode b_LN_placeSigns 63 = .ok (.aload_n 0, 1) := by decide +kernel
theorem d_LN_placeSigns_64 : decode b_LN_placeSigns 64 = .ok (.getfield 19, 3) := by decide +kernel
theorem d_LN_placeSigns_67 : decode b_LN_placeSigns 67 = .ok (.iload 7, 2) := by decide +kernel
theorem d_LN_placeSigns_69 : decode b_LN_placeSigns 69 = .ok (.iload 7, 2) := by decide +kernel
theorem d_LN_placeSigns_71 : decode b_LN_placeSigns 71 = .ok (.iload_n 3, 1) := by decide +kernel
theorem d_LN_placeSigns_72 : decode b_LN_placeSigns 72 = .ok (.iconst 1, 1) := by decide +kernel
theorem d_LN_placeSigns_73 : decode b_LN_placeSigns 73 = .ok (.isub, 1) := by decide +kernel
theorem d_LN_placeSigns_74 : decode b_LN_placeSigns 74 = .ok (.if_icmp .ne 7, 3) := by decide +kernel
theorem d_LN_placeSigns_77 : decode b_LN_placeSigns 77 = .ok (.iconst 1, 1) := by decide +kernel
theorem d_LN_placeSigns_78 : decode b_LN_placeSigns 78 = .ok (.goto 4, 3) := by decide +kernel
theorem d_LN_placeSigns_81 : decode b_LN_placeSigns 81 = .ok (.iconst 0, 1) := by decide +kernel
theorem d_LN_placeSigns_82 : decode b_LN_placeSigns 82 = .ok (.invokevirtual 134, 3) := by decide +kernel
theorem d_LN_placeSigns_85 : decode b_LN_placeSigns 85 = .ok (.istore 8, 2) := by decide +kernel
theorem d_LN_placeSigns_87 : decode b_LN_placeSigns 87 = .ok (.aload_n 0, 1) := by decide +kernel
theorem d_LN_placeSigns_88 : decode b_LN_placeSigns 88 = .ok (.getfield 16, 3) := by decide +kernel
theorem d_LN_placeSigns_91 : decode b_LN_placeSigns 91 = .ok (.iconst 0, 1) := by decide +kernel
theorem d_LN_placeSigns_92 : decode b_LN_placeSigns 92 = .ok (.aaload, 1) := by decide +kernel
theorem d_LN_placeSigns_93 : decode b_LN_placeSigns 93 = .ok (.iload 7, 2) := by decide +kernel
theorem d_LN_placeSigns_95 : decode b_LN_placeSigns 95 = .ok (.aload_n 0, 1) := by decide +kernel
theorem d_LN_placeSigns_96 : decode b_LN_placeSigns 96 = .ok (.getfield 36, 3) := by decide +kernel
theorem d_LN_placeSigns_99 : decode b_LN_placeSigns 99 = .ok (.iastore, 1) := by decide +kernel
theorem d_LN_placeSigns_100 : decode b_LN_placeSigns 100 = .ok (.aload_n 0, 1) := by decide +kernel
theorem d_LN_placeSigns_101 : decode b_LN_placeSigns 101 = .ok (.getfield 16, 3) := by decide +kernel
theorem d_LN_placeSigns_104 : decode b_LN_placeSigns 104 = .ok (.iconst 1, 1) := by decide +kernel
theorem d_LN_placeSigns_105 : decode b_LN_placeSigns 105 = .ok (.aaload, 1) := by decide +kernel
theorem d_LN_placeSigns_106 : decode b_LN_placeSigns 106 = .ok (.iload 7, 2) := by decide +kernel
theorem d_LN_placeSigns_108 : decode b_LN_placeSigns 108 = .ok (.iload 6, 2) := by decide +kernel
theorem d_LN_placeSigns_110 : decode b_LN_placeSigns 110 = .ok (.iastore, 1) := by decide +kernel
theorem d_LN_placeSigns_111 : decode b_LN_placeSigns 111 = .ok (.aload_n 0, 1) := by decide +kernel
theorem d_LN_placeSigns_112 : decode b_LN_placeSigns 112 = .ok (.getfield 16, 3) := by decide +kernel
theorem d_LN_placeSigns_115 : decode b_LN_placeSigns 115 = .ok (.iconst 2, 1) := by decide +kernel
theorem d_LN_placeSigns_116 : decode b_LN_placeSigns 116 = .ok (.aaload, 1) := by decide +kernel
theorem d_LN_placeSigns_117 : decode b_LN_placeSigns 117 = .ok (.iload 7, 2) := by decide +kernel
theorem d_LN_placeSigns_119 : decode b_LN_placeSigns 119 = .ok (.iload 8, 2) := by decide +kernel
theorem d_LN_placeSigns_121 : decode b_LN_placeSigns 121 = .ok (.iastore, 1) := by decide +kernel
theorem d_LN_placeSigns_122 : decode b_LN_placeSigns 122 = .ok (.iload 6, 2) := by decide +kernel
theorem d_LN_placeSigns_124 : decode b_LN_placeSigns 124 = .ok (.iload 8, 2) := by decide +kernel
theorem d_LN_placeSigns_126 : decode b_LN_placeSigns 126 = .ok (.iadd, 1) := by decide +kernel
theorem d_LN_placeSigns_127 : decode b_LN_placeSigns 127 = .ok (.istore 6, 2) := by decide +kernel
theorem d_LN_placeSigns_129 : decode b_LN_placeSigns 129 = .ok (.iinc 7 1, 3) := by decide +kernel
theorem d_LN_placeSigns_132 : decode b_LN_placeSigns 132 = .ok (.goto (-114), 3) := by decide +kernel
theorem d_LN_placeSigns_135 : decode b_LN_placeSigns 135 = .ok (.return_, 1) := by decide +kernel
theorem d_LN_align_0 : decode b_LN_align 0 = .ok (.iconst 0, 1) := by decide +kernel
theorem d_LN_align_1 : decode b_LN_align 1 = .ok (.aload_n 0, 1) := by decide +kernel
theorem d_LN_align_2 : decode b_LN_align 2 = .ok (.getfield 23, 3) := by decide +kernel
theorem d_LN_align_5 : decode b_LN_align 5 = .ok (.getfield 79, 3) := by decide +kernel
theorem d_LN_align_8 : decode b_LN_align 8 = .ok (.aload_n 1, 1) := by decide +kernel
theorem d_LN_align_9 : decode b_LN_align 9 = .ok (.getfield 53, 3) := by decide +kernel
theorem d_LN_align_12 : decode b_LN_align 12 = .ok (.iconst 1, 1) := by decide +kernel
theorem d_LN_align_13 : decode b_LN_align 13 = .ok (.iaload, 1) := by decide +kernel
theorem d_LN_align_14 : decode b_LN_align 14 = .ok (.isub, 1) := by decide +kernel
theorem d_LN_align_15 : decode b_LN_align 15 = .ok (.aload_n 0, 1) := by decide +kernel
theorem d_LN_align_16 : decode b_LN_align 16 = .ok (.getfield 11, 3) := by decide +kernel
theorem d_LN_align_19 : decode b_LN_align 19 = .ok (.iconst 4, 1) := by decide +kernel
theorem d_LN_align_20 : decode b_LN_align 20 = .ok (.aaload, 1) := by decide +kernel
theorem d_LN_align_21 : decode b_LN_align 21 = .ok (.aload_n 0, 1) := by decide +kernel
theorem d_LN_align_22 : decode b_LN_align 22 = .ok (.getfield 36, 3) := by decide +kernel
theorem d_LN_align_25 : decode b_LN_align 25 = .ok (.iaload, 1) := by decide +kernel
theorem d_LN_align_26 : decode b_LN_align 26 = .ok (.isub, 1) := by decide +kernel
theorem d_LN_align_27 : decode b_LN_align 27 = .ok (.invokestatic 59, 3) := by decide +kernel
theorem d_LN_align_30 : decode b_LN_align 30 = .ok (.istore 4, 2) := by decide +kernel
theorem d_LN_align_32 : decode b_LN_align 32 = .ok (.aload_n 1, 1) := by decide +kernel
theorem d_LN_align_33 : decode b_LN_align 33 = .ok (.getfield 53, 3) := by decide +kernel
theorem d_LN_align_36 : decode b_LN_align 36 = .ok (.iconst 5, 1) := by decide +kernel
theorem d_LN_align_37 : decode b_LN_align 37 = .ok (.iaload, 1) := by decide +kernel
theorem d_LN_align_38 : decode b_LN_align 38 = .ok (.istore 5, 2) := by decide +kernel
theorem d_LN_align_40 : decode b_LN_align 40 = .ok (.iconst 0, 1) := by decide +kernel
theorem d_LN_align_41 : decode b_LN_align 41 = .ok (.istore 6, 2) := by decide +kernel
theorem d_LN_align_43 : decode b_LN_align 43 = .ok (.iconst 0, 1) := by decide +kernel
theorem d_LN_align_44 : decode b_LN_align 44 = .ok (.istore 7, 2) := by decide +kernel
theorem d_LN_align_46 : decode b_LN_align 46 = .ok (.iload 5, 2) := by decide +kernel
theorem d_LN_align_48 : decode b_LN_align 48 = .ok (.iconst 1, 1) := by decide +kernel
theorem d_LN_align_49 : decode b_LN_align 49 = .ok (.if_icmp .ne 10, 3) := by decide +kernel
theorem d_LN_align_52 : decode b_LN_align 52 = .ok (.iload 4, 2) := by decide +kernel
theorem d_LN_align_54 : decode b_LN_align 54 = .ok (.istore 6, 2) := by decide +kernel
theorem d_LN_align_56 : decode b_LN_align 56 = .ok (.goto 55, 3) := by decide +kernel
theorem d_LN_align_59 : decode b_LN_align 59 = .ok (.iload 5, 2) := by decide +kernel
theorem d_LN_align_61 : decode b_LN_align 61 = .ok (.iconst 2, 1) := by decide +kernel
theorem d_LN_align_62 : decode b_LN_align 62 = .ok (.if_icmp .ne 12, 3) := by decide +kernel
theorem d_LN_align_65 : decode b_LN_align 65 = .ok (.iload 4, 2) := by decide +kernel
theorem d_LN_align_67 : decode b_LN_align 67 = .ok (.iconst 2, 1) := by decide +kernel
theorem d_LN_align_68 : decode b_LN_align 68 = .ok (.idiv, 1) := by decide +kernel
theorem d_LN_align_69 : decode b_LN_align 69 = .ok (.istore 6, 2) := by decide +kernel
theorem d_LN_align_71 : decode b_LN_align 71 = .ok (.goto 40, 3) := by decide +kernel
theorem d_LN_align_74 : decode b_LN_align 74 = .ok (.iload 5, 2) := by decide +kernel
theorem d_LN_align_76 : decode b_LN_align 76 = .ok (.iconst 3, 1) := by decide +kernel
theorem d_LN_align_77 : decode b_LN_align 77 = .ok (.if_icmp .ne 34, 3) := by decide +kernel
theorem d_LN_align_80 : decode b_LN_align 80 = .ok (.iload_n 3, 1) := by decide +kernel
theorem d_LN_align_81 : decode b_LN_align 81 = .ok (.aload_n 1, 1) := by decide +kernel
theorem d_LN_align_82 : decode b_LN_align 82 = .ok (.getfield 68, 3) := by decide +kernel
theorem d_LN_align_85 : decode b_LN_align 85 = .ok (.if_icmp .ge 26, 3) := by decide +kernel
theorem d_LN_align_88 : decode b_LN_align 88 = .ok (.aload_n 0, 1) := by decide +kernel
theorem d_LN_align_89 : decode b_LN_align 89 = .ok (.getfield 19, 3) := by decide +kernel
theorem d_LN_align_92 : decode b_LN_align 92 = .ok (.iload_n 3, 1) := by decide +kernel
theorem d_LN_align_93 : decode b_LN_align 93 = .ok (.iconst 1, 1) := by decide +kernel
theorem d_LN_align_94 : decode b_LN_align 94 = .ok (.isub, 1) := by decide +kernel
theorem d_LN_align_95 : decode b_LN_align 95 = .ok (.invokevirtual 103, 3) := by decide +kernel
theorem d_LN_align_98 : decode b_LN_align 98 = .ok (.ifCond .ne 13, 3) := by decide +kernel
theorem d_LN_align_101 : decode b_LN_align 101 = .ok (.aload_n 0, 1) := by decide +kernel
theorem d_LN_align_102 : decode b_LN_align 102 = .ok (.iload_n 2, 1) := by decide +kernel
theorem d_LN_align_103 : decode b_LN_align 103 = .ok (.iload_n 3, 1) := by decide +kernel
theorem d_LN_align_104 : decode b_LN_align 104 = .ok (.iload 4, 2) := by decide +kernel
theorem d_LN_align_106 : decode b_LN_align 106 = .ok (.invokevirtual 141, 3) := by decide +kernel
theorem d_LN_align_109 : decode b_LN_align 109 = .ok (.istore 7, 2) := by decide +kernel
theorem d_LN_align_111 : decode b_LN_align 111 = .ok (.iload_n 2, 1) := by decide +kernel
theorem d_LN_align_112 : decode b_LN_align 112 = .ok (.istore 8, 2) := by decide +kernel
theorem d_LN_align_114 : decode b_LN_align 114 = .ok (.iload 8, 2) := by decide +kernel
theorem d_LN_align_116 : decode b_LN_align 116 = .ok (.iload_n 3, 1) := by decide +kernel
theorem d_LN_align_117 : decode b_LN_align 117 = .ok (.if_icmp .ge 23, 3) := by decide +kernel
theorem d_LN_align_120 : decode b_LN_align 120 = .ok (.aload_n 0, 1) := by decide +kernel
theorem d_LN_align_121 : decode b_LN_align 121 = .ok (.getfield 16, 3) := by decide +kernel
theorem d_LN_align_124 : decode b_LN_align 124 = .ok (.iconst 1, 1) := by decide +kernel
theorem d_LN_align_125 : decode b_LN_align 125 = .ok (.aaload, 1) := by decide +kernel
theorem d_LN_align_126 : decode b_LN_align 126 = .ok (.iload 8, 2) := by decide +kernel
theorem d_LN_align_128 : decode b_LN_align 128 = .ok (.dup2, 1) := by decide +kernel
theorem d_LN_align_129 : decode b_LN_align 129 = .ok (.iaload, 1) := by decide +kernel
theorem d_LN_align_130 : decode b_LN_align 130 = .ok (.iload 6, 2) := by decide +kernel
theorem d_LN_align_132 : decode b_LN_align 132 = .ok (.iadd, 1) := by decide +kernel
theorem d_LN_align_133 : decode b_LN_align 133 = .ok (.iastore, 1) := by decide +kernel
theorem d_LN_align_134 : decode b_LN_align 134 = .ok (.iinc 8 1, 3) := by decide +kernel
theorem d_LN_align_137 : decode b_LN_align 137 = .ok (.goto (-23), 3) := by decide +kernel
theorem d_LN_align_140 : decode b_LN_align 140 = .ok (.aload_n 0, 1) := by decide +kernel
theorem d_LN_align_141 : decode b_LN_align 141 = .ok (.getfield 11, 3) := by decide +kernel
theorem d_LN_align_144 : decode b_LN_align 144 = .ok (.bipush 8, 2) := by decide +kernel
theorem d_LN_align_146 : decode b_LN_align 146 = .ok (.aaload, 1) := by decide +kernel
theorem d_LN_align_147 : decode b_LN_align 147 = .ok (.aload_n 0, 1) := by decide +kernel
theorem d_LN_align_148 : decode b_LN_align 148 = .ok (.getfield 36, 3) := by decide +kernel
theorem d_LN_align_151 : decode b_LN_align 151 = .ok (.iload 6, 2) := by decide +kernel
theorem d_LN_align_153 : decode b_LN_align 153 = .ok (.iastore, 1) := by decide +kernel
theorem d_LN_align_154 : decode b_LN_align 154 = .ok (.aload_n 0, 1) := by decide +kernel
theorem d_LN_align_155 : decode b_LN_align 155 = .ok (.getfield 11, 3) := by decide +kernel
theorem d_LN_align_158 : decode b_LN_align 158 = .ok (.bipush 9, 2) := by decide +kernel
theorem d_LN_align_160 : decode b_LN_align 160 = .ok (.aaload, 1) := by decide +kernel
theorem d_LN_align_161 : decode b_LN_align 161 = .ok (.aload_n 0, 1) := by decide +kernel
theorem d_LN_align_162 : decode b_LN_align 162 = .ok (.getfield 36, 3) := by decide +kernel
theorem d_LN_align_165 : decode b_LN_align 165 = .ok (.iload 7, 2) := by decide +kernel
theorem d_LN_align_167 : decode b_LN_align 167 = .ok (.iastore, 1) := by decide +kernel
theorem d_LN_align_168 : decode b_LN_align 168 = .ok (.return_, 1) := by decide +kernel
theorem d_LN_widenGaps_0 : decode b_LN_widenGaps 0 = .ok (.aload_n 0, 1) := by decide +kernel
theorem d_LN_widenGaps_1 : decode b_LN_widenGaps 1 = .ok (.getfield 19, 3) := by decide +kernel
theorem d_LN_widenGaps_4 : decode b_LN_widenGaps 4 = .ok (.iload_n 1, 1) := by decide +kernel
theorem d_LN_widenGaps_5 : decode b_LN_widenGaps 5 = .ok (.iload_n 2, 1) := by decide +kernel
theorem d_LN_widenGaps_6 : decode b_LN_widenGaps 6 = .ok (.invokevirtual 107, 3) := by decide +kernel
theorem d_LN_widenGaps_9 : decode b_LN_widenGaps 9 = .ok (.istore 4, 2) := by decide +kernel
theorem d_LN_widenGaps_11 : decode b_LN_widenGaps 11 = .ok (.aload_n 0, 1) := by decide +kernel
theorem d_LN_widenGaps_12 : decode b_LN_widenGaps 12 = .ok (.iload_n 1, 1) := by decide +kernel
theorem d_LN_widenGaps_13 : decode b_LN_widenGaps 13 = .ok (.iload_n 2, 1) := by decide +kernel
theorem d_LN_widenGaps_14 : decode b_LN_widenGaps 14 = .ok (.invokevirtual 144, 3) := by decide +kernel
theorem d_LN_widenGaps_17 : decode b_LN_widenGaps 17 = .ok (.istore 5, 2) := by decide +kernel
theorem d_LN_widenGaps_19 : decode b_LN_widenGaps 19 = .ok (.iconst 0, 1) := by decide +kernel
theorem d_LN_widenGaps_20 : decode b_LN_widenGaps 20 = .ok (.istore 6, 2) := by decide +kernel
theorem d_LN_widenGaps_22 : decode b_LN_widenGaps 22 = .ok (.iload 5, 2) := by decide +kernel
theorem d_LN_widenGaps_24 : decode b_LN_widenGaps 24 = .ok (.istore 7, 2) := by decide +kernel
theorem d_LN_widenGaps_26 : decode b_LN_widenGaps 26 = .ok (.iload 7, 2) := by decide +kernel
theorem d_LN_widenGaps_28 : decode b_LN_widenGaps 28 = .ok (.iload 4, 2) := by decide +kernel
theorem d_LN_widenGaps_30 : decode b_LN_widenGaps 30 = .ok (.if_icmp .ge 33, 3) := by decide +kernel
theorem d_LN_widenGaps_33 : decode b_LN_widenGaps 33 = .ok (.iload 6, 2) := by decide +kernel
theorem d_LN_widenGaps_35 : decode b_LN_widenGaps 35 = .ok (.aload_n 0, 1) := by decide +kernel
theorem d_LN_widenGaps_36 : decode b_LN_widenGaps 36 = .ok (.getfield 19, 3) := by decide +kernel
theorem d_LN_widenGaps_39 : decode b_LN_widenGaps 39 = .ok (.getfield 121, 3) := by decide +kernel
theorem d_LN_widenGaps_42 : decode b_LN_widenGaps 42 = .ok (.iload 7, 2) := by decide +kernel
theorem d_LN_widenGaps_44 : decode b_LN_widenGaps 44 = .ok (.iaload, 1) := by decide +kernel
theorem d_LN_widenGaps_45 : decode b_LN_widenGaps 45 = .ok (.iconst 1, 1) := by decide +kernel
theorem d_LN_widenGaps_46 : decode b_LN_widenGaps 46 = .ok (.if_icmp .ne 7, 3) := by decide +kernel
theorem d_LN_widenGaps_49 : decode b_LN_widenGaps 49 = .ok (.iconst 1, 1) := by decide +kernel
theorem d_LN_widenGaps_50 : decode b_LN_widenGaps 50 = .ok (.goto 4, 3) := by decide +kernel
theorem d_LN_widenGaps_53 : decode b_LN_widenGaps 53 = .ok (.iconst 0, 1) := by decide +kernel
theorem d_LN_widenGaps_54 : decode b_LN_widenGaps 54 = .ok (.iadd, 1) := by decide +kernel
theorem d_LN_widenGaps_55 : decode b_LN_widenGaps 55 = .ok (.istore 6, 2) := by decide +kernel
theorem d_LN_widenGaps_57 : decode b_LN_widenGaps 57 = .ok (.iinc 7 1, 3) := by decide +kernel
theorem d_LN_widenGaps_60 : decode b_LN_widenGaps 60 = .ok (.goto (-34), 3) := by decide +kernel
theorem d_LN_widenGaps_63 : decode b_LN_widenGaps 63 = .ok (.iload 6, 2) := by decide +kernel
theorem d_LN_widenGaps_65 : decode b_LN_widenGaps 65 = .ok (.iconst 1, 1) := by decide +kernel
theorem d_LN_widenGaps_66 : decode b_LN_widenGaps 66 = .ok (.if_icmp .ge 5, 3) := by decide +kernel
theorem d_LN_widenGaps_69 : decode b_LN_widenGaps 69 = .ok (.iconst 0, 1) := by decide +kernel
theorem d_LN_widenGaps_70 : decode b_LN_widenGaps 70 = .ok (.ireturn, 1) := by decide +kernel
theorem d_LN_widenGaps_71 : decode b_LN_widenGaps 71 = .ok (.iload_n 3, 1) := by decide +kernel
theorem d_LN_widenGaps_72 : decode b_LN_widenGaps 72 = .ok (.iload 6, 2) := by decide +kernel
theorem d_LN_widenGaps_74 : decode b_LN_widenGaps 74 = .ok (.irem, 1) := by decide +kernel
theorem d_LN_widenGaps_75 : decode b_LN_widenGaps 75 = .ok (.istore 7, 2) := by decide +kernel
theorem d_LN_widenGaps_77 : decode b_LN_widenGaps 77 = .ok (.iconst 0, 1) := by decide +kernel
theorem d_LN_widenGaps_78 : decode b_LN_widenGaps 78 = .ok (.istore 8, 2) := by decide +kernel
theorem d_LN_widenGaps_80 : decode b_LN_widenGaps 80 = .ok (.iload 5, 2) := by decide +kernel
theorem d_LN_widenGaps_82 : decode b_LN_widenGaps 82 = .ok (.istore 9, 2) := by decide +kernel
theorem d_LN_widenGaps_84 : decode b_LN_widenGaps 84 = .ok (.iload 9, 2) := by decide +kernel
theorem d_LN_widenGaps_86 : decode b_LN_widenGaps 86 = .ok (.iload_n 2, 1) := by decide +kernel
theorem d_LN_widenGaps_87 : decode b_LN_widenGaps 87 = .ok (.if_icmp .ge 85, 3) := by decide +kernel
theorem d_LN_widenGaps_90 : decode b_LN_widenGaps 90 = .ok (.aload_n 0, 1) := by decide +kernel
theorem d_LN_widenGaps_91 : decode b_LN_widenGaps 91 = .ok (.getfield 16, 3) := by decide +kernel
theorem d_LN_widenGaps_94 : decode b_LN_widenGaps 94 = .ok (.iconst 1, 1) := by decide +kernel
theorem d_LN_widenGaps_95 : decode b_LN_widenGaps 95 = .ok (.aaload, 1) := by decide +kernel
theorem d_LN_widenGaps_96 : decode b_LN_widenGaps 96 = .ok (.iload 9, 2) := by decide +kernel
theorem d_LN_widenGaps_98 : decode b_LN_widenGaps 98 = .ok (.dup2, 1) := by decide +kernel
theorem d_LN_widenGaps_99 : decode b_LN_widenGaps 99 = .ok (.iaload, 1) := by decide +kernel
theorem d_LN_widenGaps_100 : decode b_LN_widenGaps 100 = .ok (.iload 8, 2) := by decide +kernel
theorem d_LN_widenGaps_102 : decode b_LN_widenGaps 102 = .ok (.iadd, 1) := by decide +kernel
theorem d_LN_widenGaps_103 : decode b_LN_widenGaps 103 = .ok (.iastore, 1) := by decide +kernel
theorem d_LN_widenGaps_104 : decode b_LN_widenGaps 104 = .ok (.iload 9, 2) := by decide +kernel
theorem d_LN_widenGaps_106 : decode b_LN_widenGaps 106 = .ok (.iload 4, 2) := by decide +kernel
theorem d_LN_widenGaps_108 : decode b_LN_widenGaps 108 = .ok (.if_icmp .ge 58, 3) := by decide +kernel
theorem d_LN_widenGaps_111 : decode b_LN_widenGaps 111 = .ok (.aload_n 0, 1) := by decide +kernel
theorem d_LN_widenGaps_112 : decode b_LN_widenGaps 112 = .ok (.getfield 19, 3) := by decide +kernel
theorem d_LN_widenGaps_115 : decode b_LN_widenGaps 115 = .ok (.getfield 121, 3) := by decide +kernel
theorem d_LN_widenGaps_118 : decode b_LN_widenGaps 118 = .ok (.iload 9, 2) := by decide +kernel
theorem d_LN_widenGaps_120 : decode b_LN_widenGaps 120 = .ok (.iaload, 1) := by decide +kernel
theorem d_LN_widenGaps_121 : decode b_LN_widenGaps 121 = .ok (.iconst 1, 1) := by decide +kernel
theorem d_LN_widenGaps_122 : decode b_LN_widenGaps 122 = .ok (.if_icmp .ne 44, 3) := by decide +kernel
theorem d_LN_widenGaps_125 : decode b_LN_widenGaps 125 = .ok (.iload_n 3, 1) := by decide +kernel
theorem d_LN_widenGaps_126 : decode b_LN_widenGaps 126 = .ok (.iload 6, 2) := by decide +kernel
theorem d_LN_widenGaps_128 : decode b_LN_widenGaps 128 = .ok (.idiv, 1) := by decide +kernel
theorem d_LN_widenGaps_129 : decode b_LN_widenGaps 129 = .ok (.iload 7, 2) := by decide +kernel
theorem d_LN_widenGaps_131 : decode b_LN_widenGaps 131 = .ok (.ifCond .le 7, 3) := by decide +kernel
theorem d_LN_widenGaps_134 : decode b_LN_widenGaps 134 = .ok (.iconst 1, 1) := by decide +kernel
theorem d_LN_widenGaps_135 : decode b_LN_widenGaps 135 = .ok (.goto 4, 3) := by decide +kernel
theorem d_LN_widenGaps_138 : decode b_LN_widenGaps 138 = .ok (.iconst 0, 1) := by decide +kernel
theorem d_LN_widenGaps_139 : decode b_LN_widenGaps 139 = .ok (.iadd, 1) := by decide +kernel
theorem d_LN_widenGaps_140 : decode b_LN_widenGaps 140 = .ok (.istore 10, 2) := by decide +kernel
theorem d_LN_widenGaps_142 : decode b_LN_widenGaps 142 = .ok (.aload_n 0, 1) := by decide +kernel
theorem d_LN_widenGaps_143 : decode b_LN_widenGaps 143 = .ok (.getfield 16, 3) := by decide +kernel
theorem d_LN_widenGaps_146 : decode b_LN_widenGaps 146 = .ok (.iconst 2, 1) := by decide +kernel
theorem d_LN_widenGaps_147 : decode b_LN_widenGaps 147 = .ok (.aaload, 1) := by decide +kernel
theorem d_LN_widenGaps_148 : decode b_LN_widenGaps 148 = .ok (.iload 9, 2) := by decide +kernel
theorem d_LN_widenGaps_150 : decode b_LN_widenGaps 150 = .ok (.dup2, 1) := by decide +kernel
theorem d_LN_widenGaps_151 : decode b_LN_widenGaps 151 = .ok (.iaload, 1) := by decide +kernel
theorem d_LN_widenGaps_152 : decode b_LN_widenGaps 152 = .ok (.iload 10, 2) := by decide +kernel
theorem d_LN_widenGaps_154 : decode b_LN_widenGaps 154 = .ok (.iadd, 1) := by decide +kernel
theorem d_LN_widenGaps_155 : decode b_LN_widenGaps 155 = .ok (.iastore, 1) := by decide +kernel
theorem d_LN_widenGaps_156 : decode b_LN_widenGaps 156 = .ok (.iload 8, 2) := by decide +kernel
theorem d_LN_widenGaps_158 : decode b_LN_widenGaps 158 = .ok (.iload 10, 2) := by decide +kernel
theorem d_LN_widenGaps_160 : decode b_LN_widenGaps 160 = .ok (.iadd, 1) := by decide +kernel
theorem d_LN_widenGaps_161 : decode b_LN_widenGaps 161 = .ok (.istore 8, 2) := by decide +kernel
theorem d_LN_widenGaps_163 : decode b_LN_widenGaps 163 = .ok (.iinc 7 (-1), 3) := by decide +kernel
theorem d_LN_widenGaps_166 : decode b_LN_widenGaps 166 = .ok (.iinc 9 1, 3) := by decide +kernel
theorem d_LN_widenGaps_169 : decode b_LN_widenGaps 169 = .ok (.goto (-85), 3) := by decide +kernel
theorem d_LN_widenGaps_172 : decode b_LN_widenGaps 172 = .ok (.iload_n 3, 1) := by decide +kernel
theorem d_LN_widenGaps_173 : decode b_LN_widenGaps 173 = .ok (.ireturn, 1) := by decide +kernel
end
section
set_option maxHeartbeats 4000000 in
set_option maxRecDepth 100000 in
theorem lp_placeSigns {p : Program} {l : Launch} {e : Env} {s : State} {m : MethodId} {args : Array Value} {below : List Frame} {meth : Method} {c : Code} {Q : State → Prop} {A : Nat → Prop} {H0 : Heap} {D : va_G} {ad : Nat → Nat} {cs : pg_C} {rp : Option Nat} {M : Nat → Nat → Int} (hx : p.tables.exec = Jvm.exec) (hb : c.code = b_LN_placeSigns) (hml : c.maxLocals = 9) (hg : ∀ w ∈ gt, w.before args s = true) (hown : s.vm.findClass R_LN = some m.cls) (hK : va_K D vwCl (pg_tys cs) s) (hA : ∀ q, H0.size ≤ q → A q) (i n a b so : Nat) (x0 : Int) (hb6 : b ≤ 600) (hso : so ≤ 600) (hp : wfP M i n) (ht : wfT M) (MF : Nat → Nat → Int) (kk : ∀ (H : Heap) (locs : List Loc) (ls : Array Slot), va_P D vwCl (pg_w ad cs rp MF) H → va_D A (pg_w ad cs rp MF) → va_S A H0 H locs → lv_has ls 9 [] → W p l e ({ frames := 3, cells := 0, slots := 0, locals := 68 } : Room) s m args below meth c H locs 0 0 Q (F0 m 135 ls [])) : ∀ (f k : Nat) (x : Int) (Mc : Nat → Nat → Int), k + f = b → 0 ≤ x → x + 60000 * ((f : Nat) : Int) ≤ 39000000 → eqb 23 25 Mc M → q_ps (M 7) (M 8) (p_tabs M i n) (M 3 2) so b f k x Mc = MF → ∀ (H : Heap) (locs : List Loc) (ls : Array Slot), va_P D vwCl (pg_w ad cs rp Mc) H → va_D A (pg_w ad cs rp Mc) → va_S A H0 H locs → lv_has ls 9 [(7, .int (iI (((k : Nat) : Int)))), (6, .int (iI (x))), (5, .int (iI (((so : Nat) : Int)))), (0, .ref (ad (3))), (1, .ref (ad (29 + 4 * i))), (2, .int (iI (((a : Nat) : Int)))), (3, .int (iI (((b : Nat) : Int)))), (4, .int (iI (x0)))] → W p l e ({ frames := 3, cells := 0, slots := 0, locals := 68 } : Room) s m args below meth c H locs 0 0 Q (F0 m 18 ls []) := by
  obtain ⟨hi, hn, hs, hz, hz2⟩ := id hp
  have hst := ht.2.2.2.2.2
  intro f
  induction f with
  | zero =>
    intro k x Mc hkf hx0 hxB hsm he H locs ls hP hD hS hl
    have g7 : Mc 7 = M 7 := hsm 7 (by omega)
    have g8 : Mc 8 = M 8 := hsm 8 (by omega)
    have g3 : Mc 3 = M 3 := hsm 3 (by omega)
    have g2 : Mc 2 = M 2 := hsm 2 (by omega)
    have g31 : Mc (31 + 4 * i) = M (31 + 4 * i) := hsm _ (by omega)
    have g32 : Mc (32 + 4 * i) = M (32 + 4 * i) := hsm _ (by omega)
    have ht1 : wfT Mc := eqb_wfT hsm (by omega) ht
    have hp1 : wfP Mc i n := eqb_wfP hsm (by omega) hp
    obtain ⟨-, -, hs1, hz1, hz21⟩ := id hp1
    have hst1 := ht1.2.2.2.2.2
    have hwb := p_wbtb (kd := M 7) (wd := M 8) (so := so) (b := b) ht.2.1 (so - (k + 1)) (k + 1) 0
    have hzk : ∀ j, zb (Mc (32 + 4 * i) j) := fun j => ⟨by have := hz21 j; omega, by have := hz21 j; omega⟩
    refine lv_iload hx hb d_LN_placeSigns_18 (lv_at hl 0 rfl) ?_
    refine lv_iload_n hx hb d_LN_placeSigns_20 rfl (lv_at hl 6 rfl) ?_
    refine z_icmp_ge hx hb (tgt := 135) d_LN_placeSigns_21 (by decide) ⟨by omega, by omega⟩ ⟨by omega, by omega⟩ (fun c_21 => ?_) (fun c_21 => ?_)
    · have he : Mc = MF := he
      subst he
      exact kk H locs ls hP hD hS (lv_sub hl [] rfl)
    · exact absurd c_21 (by omega)
  | succ f ih =>
    intro k x Mc hkf hx0 hxB hsm he H locs ls hP hD hS hl
    have g7 : Mc 7 = M 7 := hsm 7 (by omega)
    have g8 : Mc 8 = M 8 := hsm 8 (by omega)
    have g3 : Mc 3 = M 3 := hsm 3 (by omega)
    have g2 : Mc 2 = M 2 := hsm 2 (by omega)
    have g31 : Mc (31 + 4 * i) = M (31 + 4 * i) := hsm _ (by omega)
    have g32 : Mc (32 + 4 * i) = M (32 + 4 * i) := hsm _ (by omega)
    have ht1 : wfT Mc := eqb_wfT hsm (by omega) ht
    have hp1 : wfP Mc i n := eqb_wfP hsm (by omega) hp
    obtain ⟨-, -, hs1, hz1, hz21⟩ := id hp1
    have hst1 := ht1.2.2.2.2.2
    have hwb := p_wbtb (kd := M 7) (wd := M 8) (so := so) (b := b) ht.2.1 (so - (k + 1)) (k + 1) 0
    have hzk : ∀ j, zb (Mc (32 + 4 * i) j) := fun j => ⟨by have := hz21 j; omega, by have := hz21 j; omega⟩
    refine lv_iload hx hb d_LN_placeSigns_18 (lv_at hl 0 rfl) ?_
    refine lv_iload_n hx hb d_LN_placeSigns_20 rfl (lv_at hl 6 rfl) ?_
    refine z_icmp_ge hx hb (tgt := 135) d_LN_placeSigns_21 (by decide) ⟨by omega, by omega⟩ ⟨by omega, by omega⟩ (fun c_21 => ?_) (fun c_21 => ?_)
    · exact absurd c_21 (by omega)
    · refine lv_aload_n hx hb d_LN_placeSigns_24 rfl (lv_at hl 3 rfl) ?_
      refine z_get (ci := 3) (C := R_LN) (T := T_LN) (N := 6) (v := .ref (ad (1))) hx hb hg in_LN hown hK hP (3) (by decide) rfl rfl 3 (by decide) (hg _ (List.mem_append_right _ (List.mem_append_right _ (List.mem_append_right _ (List.mem_append_right _ (List.mem_append_left _ (List.mem_of_getElem? (i := 11) rfl))))))) (fun _ h9 => h9) rfl d_LN_placeSigns_25 ?_
      refine z_get (ci := 1) (C := R_TX) (T := T_TX) (N := 6) (v := .ref (ad (7))) hx hb hg in_TX hown hK hP (1) (by decide) rfl rfl 1 (by decide) (hg _ (List.mem_append_right _ (List.mem_append_right _ (List.mem_append_left _ (List.mem_of_getElem? (i := 22) rfl))))) (fun _ h9 => h9) rfl d_LN_placeSigns_28 ?_
      refine lv_iload hx hb d_LN_placeSigns_31 (lv_at hl 0 rfl) ?_
      refine z_iald hx hb hK hP (7) 0 (by decide) (fun _ => rfl) rfl (k) rfl (by omega) (by decide) d_LN_placeSigns_33 ?_
      refine z_iconst hx hb (z := 2) d_LN_placeSigns_34 ?_
      refine z_icmp_ne hx hb (tgt := 63) d_LN_placeSigns_35 (by decide) (zb_7 ht1 _) ⟨by decide, by decide⟩ (fun c_35 => ?_) (fun c_35 => ?_)
      · refine lv_aload_n hx hb d_LN_placeSigns_63 rfl (lv_at hl 3 rfl) ?_
        refine z_get (ci := 3) (C := R_LN) (T := T_LN) (N := 6) (v := .ref (ad (1))) hx hb hg in_LN hown hK hP (3) (by decide) rfl rfl 3 (by decide) (hg _ (List.mem_append_right _ (List.mem_append_right _ (List.mem_append_right _ (List.mem_append_right _ (List.mem_append_left _ (List.mem_of_getElem? (i := 11) rfl))))))) (fun _ h9 => h9) rfl d_LN_placeSigns_64 ?_
        refine lv_iload hx hb d_LN_placeSigns_67 (lv_at hl 0 rfl) ?_
        refine lv_iload hx hb d_LN_placeSigns_69 (lv_at hl 0 rfl) ?_
        refine lv_iload_n hx hb d_LN_placeSigns_71 rfl (lv_at hl 6 rfl) ?_
        refine z_iconst hx hb (z := 1) d_LN_placeSigns_72 ?_
        refine z_isub hx hb d_LN_placeSigns_73 (v := (((b : Nat) : Int) - 1)) rfl ?_
        refine z_icmp_ne hx hb (tgt := 81) d_LN_placeSigns_74 (by decide) ⟨by omega, by omega⟩ ⟨by omega, by omega⟩ (fun c_74 => ?_) (fun c_74 => ?_)
        · refine z_iconst hx hb (z := 0) d_LN_placeSigns_81 ?_
          refine ro_V (As := [.int (iI (((k : Nat) : Int))), .int (iI (0))]) (rest := []) (z := p_wid (M 7) (M 8) k false) ⟨hx, hb, hml, hown, hg⟩ ((show p_wid (Mc 7) (Mc 8) k false = p_wid (M 7) (M 8) k false by rw [g7, g8]) ▸ c_widthWithin l k false (by omega) (zb_7 ht1)) (cwV 2 hg (gt_V (List.mem_append_right _ (List.mem_append_right _ (List.mem_append_right _ (List.mem_append_right _ (List.mem_append_right _ (List.mem_append_right _ (List.mem_append_left _ (List.mem_of_getElem? (i := 7) rfl)))))))) (List.mem_append_right _ (List.mem_append_right _ (List.mem_append_right _ (List.mem_append_right _ (List.mem_append_right _ (List.mem_append_right _ (List.mem_append_left _ (List.mem_of_getElem? (i := 8) rfl)))))))) (List.mem_append_right _ (List.mem_append_right _ (List.mem_append_right _ (List.mem_append_right _ (List.mem_append_right _ (List.mem_append_right _ (List.mem_append_left _ (List.mem_of_getElem? (i := 9) rfl)))))))) (List.mem_append_right _ (List.mem_append_left _ (List.mem_of_getElem? (i := 3) rfl))) (List.mem_append_right _ (List.mem_append_right _ (List.mem_append_right _ (List.mem_append_right _ (List.mem_append_right _ (List.mem_append_right _ (List.mem_append_left _ (List.mem_of_getElem? (i := 10) rfl))))))))) rfl rfl rfl (by decide +kernel) ⟨Nat.le_of_ble_eq_true rfl, Nat.le_of_ble_eq_true rfl⟩) hK hP (va_recv hK hP (ci := 1) (q0 := 1) rfl (wl_atE (by decide) rfl)) rfl hl.1 rfl (Nat.le_of_ble_eq_true rfl) d_LN_placeSigns_82 ⟨Nat.zero_le _, Nat.zero_le _⟩ ?_
          have hwd : p_wid (M 7) (M 8) k false = q_wide (M 7) (M 8) (p_tabs M i n) so b k x := by unfold q_wide; rw [if_neg (by rw [← g7]; exact c_35), decide_eq_false (show ¬ k + 1 = b by omega)]
          obtain ⟨qw, eqw⟩ : ∃ q_, q_ = q_wide (M 7) (M 8) (p_tabs M i n) so b k x := ⟨_, rfl⟩
          have hqb : 0 ≤ qw ∧ qw ≤ 60000 := by rw [eqw, ← hwd]; first | exact p_tabb hx0 (by omega) hst hz | (have := p_widb (kd := M 7) (wd := M 8) (i := k) (la := true) (ht.2.1 k); omega) | (have := p_widb (kd := M 7) (wd := M 8) (i := k) (la := false) (ht.2.1 k); omega)
          rw [hwd, ← eqw]
          refine lv_istore (lv' := [(8, .int (iI (qw))), (7, .int (iI (((k : Nat) : Int)))), (6, .int (iI (x))), (5, .int (iI (((so : Nat) : Int)))), (0, .ref (ad (3))), (1, .ref (ad (29 + 4 * i))), (2, .int (iI (((a : Nat) : Int)))), (3, .int (iI (((b : Nat) : Int)))), (4, .int (iI (x0)))]) hx hb d_LN_placeSigns_85 hl (by decide) rfl (fun ls hl => ?_)
          refine lv_aload_n hx hb d_LN_placeSigns_87 rfl (lv_at hl 4 rfl) ?_
          refine z_get (ci := 3) (C := R_LN) (T := T_LN) (N := 6) (v := .ref (ad (11))) hx hb hg in_LN hown hK hP (3) (by decide) rfl rfl 1 (by decide) (hg _ (List.mem_append_right _ (List.mem_append_right _ (List.mem_append_right _ (List.mem_append_right _ (List.mem_append_left _ (List.mem_of_getElem? (i := 6) rfl))))))) (fun _ h9 => h9) rfl d_LN_placeSigns_88 ?_
          refine z_iconst hx hb (z := 0) d_LN_placeSigns_91 ?_
          refine z_aald hx hb hK hP (11) 1 (by decide) (fun _ => rfl) rfl rfl (0) rfl (by decide) (by decide) d_LN_placeSigns_92 ?_
          refine lv_iload hx hb d_LN_placeSigns_93 (lv_at hl 1 rfl) ?_
          refine lv_aload_n hx hb d_LN_placeSigns_95 rfl (lv_at hl 4 rfl) ?_
          refine z_get (ci := 3) (C := R_LN) (T := T_LN) (N := 6) (v := .int (iI (Mc (3) 2))) hx hb hg in_LN hown hK hP (3) (by decide) rfl rfl 2 (by decide) (hg _ (List.mem_append_right _ (List.mem_append_right _ (List.mem_append_right _ (List.mem_append_right _ (List.mem_append_left _ (List.mem_of_getElem? (i := 8) rfl))))))) (fun _ h9 => h9) rfl d_LN_placeSigns_96 ?_
          refine z_iast hx hb hK hP hD hS (23) 0 (by decide) (fun _ => rfl) rfl (v := Mc (3) 2) (k) rfl (by omega) (by decide) d_LN_placeSigns_99 (fun H locs hP hD hS => ?_)
          obtain ⟨M_1, eM_1⟩ : ∃ q_, q_ = mset Mc (23) (k) (Mc (3) 2) := ⟨_, rfl⟩
          have hP : va_P D vwCl (pg_w ad cs rp M_1) H := by rw [eM_1]; exact hP
          have hD : va_D A (pg_w ad cs rp M_1) := by rw [eM_1]; exact hD
          refine lv_aload_n hx hb d_LN_placeSigns_100 rfl (lv_at hl 4 rfl) ?_
          refine z_get (ci := 3) (C := R_LN) (T := T_LN) (N := 6) (v := .ref (ad (11))) hx hb hg in_LN hown hK hP (3) (by decide) rfl rfl 1 (by decide) (hg _ (List.mem_append_right _ (List.mem_append_right _ (List.mem_append_right _ (List.mem_append_right _ (List.mem_append_left _ (List.mem_of_getElem? (i := 6) rfl))))))) (fun _ h9 => h9) rfl d_LN_placeSigns_101 ?_
          refine z_iconst hx hb (z := 1) d_LN_placeSigns_104 ?_
          refine z_aald hx hb hK hP (11) 1 (by decide) (fun _ => rfl) rfl rfl (1) rfl (by decide) (by decide) d_LN_placeSigns_105 ?_
          refine lv_iload hx hb d_LN_placeSigns_106 (lv_at hl 1 rfl) ?_
          refine lv_iload hx hb d_LN_placeSigns_108 (lv_at hl 2 rfl) ?_
          refine z_iast hx hb hK hP hD hS (24) 0 (by decide) (fun _ => rfl) rfl (v := x) (k) rfl (by omega) (by decide) d_LN_placeSigns_110 (fun H locs hP hD hS => ?_)
          obtain ⟨M_2, eM_2⟩ : ∃ q_, q_ = mset M_1 (24) (k) (x) := ⟨_, rfl⟩
          have hP : va_P D vwCl (pg_w ad cs rp M_2) H := by rw [eM_2]; exact hP
          have hD : va_D A (pg_w ad cs rp M_2) := by rw [eM_2]; exact hD
          refine lv_aload_n hx hb d_LN_placeSigns_111 rfl (lv_at hl 4 rfl) ?_
          refine z_get (ci := 3) (C := R_LN) (T := T_LN) (N := 6) (v := .ref (ad (11))) hx hb hg in_LN hown hK hP (3) (by decide) rfl rfl 1 (by decide) (hg _ (List.mem_append_right _ (List.mem_append_right _ (List.mem_append_right _ (List.mem_append_right _ (List.mem_append_left _ (List.mem_of_getElem? (i := 6) rfl))))))) (fun _ h9 => h9) rfl d_LN_placeSigns_112 ?_
          refine z_iconst hx hb (z := 2) d_LN_placeSigns_115 ?_
          refine z_aald hx hb hK hP (11) 1 (by decide) (fun _ => rfl) rfl rfl (2) rfl (by decide) (by decide) d_LN_placeSigns_116 ?_
          refine lv_iload hx hb d_LN_placeSigns_117 (lv_at hl 1 rfl) ?_
          refine lv_iload hx hb d_LN_placeSigns_119 (lv_at hl 0 rfl) ?_
          refine z_iast hx hb hK hP hD hS (25) 0 (by decide) (fun _ => rfl) rfl (v := qw) (k) rfl (by omega) (by decide) d_LN_placeSigns_121 (fun H locs hP hD hS => ?_)
          obtain ⟨M_3, eM_3⟩ : ∃ q_, q_ = mset M_2 (25) (k) (qw) := ⟨_, rfl⟩
          have hP : va_P D vwCl (pg_w ad cs rp M_3) H := by rw [eM_3]; exact hP
          have hD : va_D A (pg_w ad cs rp M_3) := by rw [eM_3]; exact hD
          refine lv_iload hx hb d_LN_placeSigns_122 (lv_at hl 2 rfl) ?_
          refine lv_iload hx hb d_LN_placeSigns_124 (lv_at hl 0 rfl) ?_
          refine z_iadd hx hb d_LN_placeSigns_126 (v := (x + qw)) rfl ?_
          refine lv_istore (lv' := [(6, .int (iI ((x + qw)))), (8, .int (iI (qw))), (7, .int (iI (((k : Nat) : Int)))), (5, .int (iI (((so : Nat) : Int)))), (0, .ref (ad (3))), (1, .ref (ad (29 + 4 * i))), (2, .int (iI (((a : Nat) : Int)))), (3, .int (iI (((b : Nat) : Int)))), (4, .int (iI (x0)))]) hx hb d_LN_placeSigns_127 hl (by decide) rfl (fun ls hl => ?_)
          refine z_iinc (v := ((k + 1 : Nat) : Int)) (lv' := [(7, .int (iI (((k + 1 : Nat) : Int)))), (6, .int (iI ((x + qw)))), (8, .int (iI (qw))), (5, .int (iI (((so : Nat) : Int)))), (0, .ref (ad (3))), (1, .ref (ad (29 + 4 * i))), (2, .int (iI (((a : Nat) : Int)))), (3, .int (iI (((b : Nat) : Int)))), (4, .int (iI (x0)))]) hx hb d_LN_placeSigns_129 hl (k := 2) rfl (by omega) (by decide) rfl (fun ls hl => ?_)
          refine lv_goto (tgt := 18) hx hb d_LN_placeSigns_132 (by decide) ?_
          have hF : q_ps (M 7) (M 8) (p_tabs M i n) (M 3 2) so b f (k + 1) (x + qw) M_3 = MF := by rw [← he, eM_3, eM_2, eM_1, g3]; conv => rhs; unfold q_ps; rw [← eqw]
          exact ih (k + 1) (x + qw) M_3 (by omega) (by omega) (by omega) (by rw [eM_3, eM_2, eM_1]; exact eqb_set (eqb_set (eqb_set hsm (by omega) (by omega)) (by omega) (by omega)) (by omega) (by omega)) hF H locs ls hP hD hS (lv_sub hl [0, 1, 3, 4, 5, 6, 7, 8] rfl)
        · refine z_iconst hx hb (z := 1) d_LN_placeSigns_77 ?_
          refine lv_goto (tgt := 82) hx hb d_LN_placeSigns_78 (by decide) ?_
          refine ro_V (As := [.int (iI (((k : Nat) : Int))), .int (iI (1))]) (rest := []) (z := p_wid (M 7) (M 8) k true) ⟨hx, hb, hml, hown, hg⟩ ((show p_wid (Mc 7) (Mc 8) k true = p_wid (M 7) (M 8) k true by rw [g7, g8]) ▸ c_widthWithin l k true (by omega) (zb_7 ht1)) (cwV 2 hg (gt_V (List.mem_append_right _ (List.mem_append_right _ (List.mem_append_right _ (List.mem_append_right _ (List.mem_append_right _ (List.mem_append_right _ (List.mem_append_left _ (List.mem_of_getElem? (i := 7) rfl)))))))) (List.mem_append_right _ (List.mem_append_right _ (List.mem_append_right _ (List.mem_append_right _ (List.mem_append_right _ (List.mem_append_right _ (List.mem_append_left _ (List.mem_of_getElem? (i := 8) rfl)))))))) (List.mem_append_right _ (List.mem_append_right _ (List.mem_append_right _ (List.mem_append_right _ (List.mem_append_right _ (List.mem_append_right _ (List.mem_append_left _ (List.mem_of_getElem? (i := 9) rfl)))))))) (List.mem_append_right _ (List.mem_append_left _ (List.mem_of_getElem? (i := 3) rfl))) (List.mem_append_right _ (List.mem_append_right _ (List.mem_append_right _ (List.mem_append_right _ (List.mem_append_right _ (List.mem_append_right _ (List.mem_append_left _ (List.mem_of_getElem? (i := 10) rfl))))))))) rfl rfl rfl (by decide +kernel) ⟨Nat.le_of_ble_eq_true rfl, Nat.le_of_ble_eq_true rfl⟩) hK hP (va_recv hK hP (ci := 1) (q0 := 1) rfl (wl_atE (by decide) rfl)) rfl hl.1 rfl (Nat.le_of_ble_eq_true rfl) d_LN_placeSigns_82 ⟨Nat.zero_le _, Nat.zero_le _⟩ ?_
          have hwd : p_wid (M 7) (M 8) k true = q_wide (M 7) (M 8) (p_tabs M i n) so b k x := by unfold q_wide; rw [if_neg (by rw [← g7]; exact c_35), decide_eq_true (show k + 1 = b by omega)]
          obtain ⟨qw, eqw⟩ : ∃ q_, q_ = q_wide (M 7) (M 8) (p_tabs M i n) so b k x := ⟨_, rfl⟩
          have hqb : 0 ≤ qw ∧ qw ≤ 60000 := by rw [eqw, ← hwd]; first | exact p_tabb hx0 (by omega) hst hz | (have := p_widb (kd := M 7) (wd := M 8) (i := k) (la := true) (ht.2.1 k); omega) | (have := p_widb (kd := M 7) (wd := M 8) (i := k) (la := false) (ht.2.1 k); omega)
          rw [hwd, ← eqw]
          refine lv_istore (lv' := [(8, .int (iI (qw))), (7, .int (iI (((k : Nat) : Int)))), (6, .int (iI (x))), (5, .int (iI (((so : Nat) : Int)))), (0, .ref (ad (3))), (1, .ref (ad (29 + 4 * i))), (2, .int (iI (((a : Nat) : Int)))), (3, .int (iI (((b : Nat) : Int)))), (4, .int (iI (x0)))]) hx hb d_LN_placeSigns_85 hl (by decide) rfl (fun ls hl => ?_)
          refine lv_aload_n hx hb d_LN_placeSigns_87 rfl (lv_at hl 4 rfl) ?_
          refine z_get (ci := 3) (C := R_LN) (T := T_LN) (N := 6) (v := .ref (ad (11))) hx hb hg in_LN hown hK hP (3) (by decide) rfl rfl 1 (by decide) (hg _ (List.mem_append_right _ (List.mem_append_right _ (List.mem_append_right _ (List.mem_append_right _ (List.mem_append_left _ (List.mem_of_getElem? (i := 6) rfl))))))) (fun _ h9 => h9) rfl d_LN_placeSigns_88 ?_
          refine z_iconst hx hb (z := 0) d_LN_placeSigns_91 ?_
          refine z_aald hx hb hK hP (11) 1 (by decide) (fun _ => rfl) rfl rfl (0) rfl (by decide) (by decide) d_LN_placeSigns_92 ?_
          refine lv_iload hx hb d_LN_placeSigns_93 (lv_at hl 1 rfl) ?_
          refine lv_aload_n hx hb d_LN_placeSigns_95 rfl (lv_at hl 4 rfl) ?_
          refine z_get (ci := 3) (C := R_LN) (T := T_LN) (N := 6) (v := .int (iI (Mc (3) 2))) hx hb hg in_LN hown hK hP (3) (by decide) rfl rfl 2 (by decide) (hg _ (List.mem_append_right _ (List.mem_append_right _ (List.mem_append_right _ (List.mem_append_right _ (List.mem_append_left _ (List.mem_of_getElem? (i := 8) rfl))))))) (fun _ h9 => h9) rfl d_LN_placeSigns_96 ?_
          refine z_iast hx hb hK hP hD hS (23) 0 (by decide) (fun _ => rfl) rfl (v := Mc (3) 2) (k) rfl (by omega) (by decide) d_LN_placeSigns_99 (fun H locs hP hD hS => ?_)
          obtain ⟨M_4, eM_4⟩ : ∃ q_, q_ = mset Mc (23) (k) (Mc (3) 2) := ⟨_, rfl⟩
          have hP : va_P D vwCl (pg_w ad cs rp M_4) H := by rw [eM_4]; exact hP
          have hD : va_D A (pg_w ad cs rp M_4) := by rw [eM_4]; exact hD
          refine lv_aload_n hx hb d_LN_placeSigns_100 rfl (lv_at hl 4 rfl) ?_
          refine z_get (ci := 3) (C := R_LN) (T := T_LN) (N := 6) (v := .ref (ad (11))) hx hb hg in_LN hown hK hP (3) (by decide) rfl rfl 1 (by decide) (hg _ (List.mem_append_right _ (List.mem_append_right _ (List.mem_append_right _ (List.mem_append_right _ (List.mem_append_left _ (List.mem_of_getElem? (i := 6) rfl))))))) (fun _ h9 => h9) rfl d_LN_placeSigns_101 ?_
          refine z_iconst hx hb (z := 1) d_LN_placeSigns_104 ?_
          refine z_aald hx hb hK hP (11) 1 (by decide) (fun _ => rfl) rfl rfl (1) rfl (by decide) (by decide) d_LN_placeSigns_105 ?_
          refine lv_iload hx hb d_LN_placeSigns_106 (lv_at hl 1 rfl) ?_
          refine lv_iload hx hb d_LN_placeSigns_108 (lv_at hl 2 rfl) ?_
          refine z_iast hx hb hK hP hD hS (24) 0 (by decide) (fun _ => rfl) rfl (v := x) (k) rfl (by omega) (by decide) d_LN_placeSigns_110 (fun H locs hP hD hS => ?_)
          obtain ⟨M_5, eM_5⟩ : ∃ q_, q_ = mset M_4 (24) (k) (x) := ⟨_, rfl⟩
          have hP : va_P D vwCl (pg_w ad cs rp M_5) H := by rw [eM_5]; exact hP
          have hD : va_D A (pg_w ad cs rp M_5) := by rw [eM_5]; exact hD
          refine lv_aload_n hx hb d_LN_placeSigns_111 rfl (lv_at hl 4 rfl) ?_
          refine z_get (ci := 3) (C := R_LN) (T := T_LN) (N := 6) (v := .ref (ad (11))) hx hb hg in_LN hown hK hP (3) (by decide) rfl rfl 1 (by decide) (hg _ (List.mem_append_right _ (List.mem_append_right _ (List.mem_append_right _ (List.mem_append_right _ (List.mem_append_left _ (List.mem_of_getElem? (i := 6) rfl))))))) (fun _ h9 => h9) rfl d_LN_placeSigns_112 ?_
          refine z_iconst hx hb (z := 2) d_LN_placeSigns_115 ?_
          refine z_aald hx hb hK hP (11) 1 (by decide) (fun _ => rfl) rfl rfl (2) rfl (by decide) (by decide) d_LN_placeSigns_116 ?_
          refine lv_iload hx hb d_LN_placeSigns_117 (lv_at hl 1 rfl) ?_
          refine lv_iload hx hb d_LN_placeSigns_119 (lv_at hl 0 rfl) ?_
          refine z_iast hx hb hK hP hD hS (25) 0 (by decide) (fun _ => rfl) rfl (v := qw) (k) rfl (by omega) (by decide) d_LN_placeSigns_121 (fun H locs hP hD hS => ?_)
          obtain ⟨M_6, eM_6⟩ : ∃ q_, q_ = mset M_5 (25) (k) (qw) := ⟨_, rfl⟩
          have hP : va_P D vwCl (pg_w ad cs rp M_6) H := by rw [eM_6]; exact hP
          have hD : va_D A (pg_w ad cs rp M_6) := by rw [eM_6]; exact hD
          refine lv_iload hx hb d_LN_placeSigns_122 (lv_at hl 2 rfl) ?_
          refine lv_iload hx hb d_LN_placeSigns_124 (lv_at hl 0 rfl) ?_
          refine z_iadd hx hb d_LN_placeSigns_126 (v := (x + qw)) rfl ?_
          refine lv_istore (lv' := [(6, .int (iI ((x + qw)))), (8, .int (iI (qw))), (7, .int (iI (((k : Nat) : Int)))), (5, .int (iI (((so : Nat) : Int)))), (0, .ref (ad (3))), (1, .ref (ad (29 + 4 * i))), (2, .int (iI (((a : Nat) : Int)))), (3, .int (iI (((b : Nat) : Int)))), (4, .int (iI (x0)))]) hx hb d_LN_placeSigns_127 hl (by decide) rfl (fun ls hl => ?_)
          refine z_iinc (v := ((k + 1 : Nat) : Int)) (lv' := [(7, .int (iI (((k + 1 : Nat) : Int)))), (6, .int (iI ((x + qw)))), (8, .int (iI (qw))), (5, .int (iI (((so : Nat) : Int)))), (0, .ref (ad (3))), (1, .ref (ad (29 + 4 * i))), (2, .int (iI (((a : Nat) : Int)))), (3, .int (iI (((b : Nat) : Int)))), (4, .int (iI (x0)))]) hx hb d_LN_placeSigns_129 hl (k := 2) rfl (by omega) (by decide) rfl (fun ls hl => ?_)
          refine lv_goto (tgt := 18) hx hb d_LN_placeSigns_132 (by decide) ?_
          have hF : q_ps (M 7) (M 8) (p_tabs M i n) (M 3 2) so b f (k + 1) (x + qw) M_6 = MF := by rw [← he, eM_6, eM_5, eM_4, g3]; conv => rhs; unfold q_ps; rw [← eqw]
          exact ih (k + 1) (x + qw) M_6 (by omega) (by omega) (by omega) (by rw [eM_6, eM_5, eM_4]; exact eqb_set (eqb_set (eqb_set hsm (by omega) (by omega)) (by omega) (by omega)) (by omega) (by omega)) hF H locs ls hP hD hS (lv_sub hl [0, 1, 3, 4, 5, 6, 7, 8] rfl)
      · refine lv_aload_n hx hb d_LN_placeSigns_38 rfl (lv_at hl 4 rfl) ?_
        refine lv_iload hx hb d_LN_placeSigns_39 (lv_at hl 1 rfl) ?_
        refine lv_aload_n hx hb d_LN_placeSigns_41 rfl (lv_at hl 3 rfl) ?_
        refine lv_iload hx hb d_LN_placeSigns_42 (lv_at hl 0 rfl) ?_
        refine lv_iload hx hb d_LN_placeSigns_44 (lv_at hl 2 rfl) ?_
        refine lv_iload_n hx hb d_LN_placeSigns_46 rfl (lv_at hl 6 rfl) ?_
        refine ro_V (As := [.int (iI (((k : Nat) : Int))), .int (iI (((so : Nat) : Int))), .int (iI (((b : Nat) : Int)))]) (rest := [.int (iI (x)), .ref (ad (29 + 4 * i))]) (z := p_wbt (M 7) (M 8) so b (so - (k + 1)) (k + 1) 0) ⟨hx, hb, hml, hown, hg⟩ ((show p_wbt (Mc 7) (Mc 8) so b (so - (k + 1)) (k + 1) 0 = p_wbt (M 7) (M 8) so b (so - (k + 1)) (k + 1) 0 by rw [g7, g8]) ▸ c_widthsBehindTab l k so b (by omega) hso hb6 ht1) (cwV 3 hg (gt_V (List.mem_append_right _ (List.mem_append_right _ (List.mem_append_right _ (List.mem_append_right _ (List.mem_append_right _ (List.mem_append_right _ (List.mem_append_left _ (List.mem_of_getElem? (i := 4) rfl)))))))) (List.mem_append_right _ (List.mem_append_right _ (List.mem_append_right _ (List.mem_append_right _ (List.mem_append_right _ (List.mem_append_right _ (List.mem_append_left _ (List.mem_of_getElem? (i := 5) rfl)))))))) (List.mem_append_left _ (List.mem_of_getElem? (i := 4) rfl)) (List.mem_append_right _ (List.mem_append_left _ (List.mem_of_getElem? (i := 6) rfl))) (List.mem_append_right _ (List.mem_append_right _ (List.mem_append_right _ (List.mem_append_right _ (List.mem_append_right _ (List.mem_append_right _ (List.mem_append_left _ (List.mem_of_getElem? (i := 6) rfl))))))))) rfl rfl rfl (by decide +kernel) ⟨Nat.le_of_ble_eq_true rfl, Nat.le_of_ble_eq_true rfl⟩) hK hP (va_recv hK hP (ci := 3) (q0 := 3) rfl (wl_atE (by decide) rfl)) rfl hl.1 rfl (Nat.le_of_ble_eq_true rfl) d_LN_placeSigns_47 ⟨Nat.zero_le _, Nat.zero_le _⟩ ?_
        refine lv_aload_n hx hb d_LN_placeSigns_50 rfl (lv_at hl 3 rfl) ?_
        refine z_get (ci := 3) (C := R_LN) (T := T_LN) (N := 6) (v := .ref (ad (2))) hx hb hg in_LN hown hK hP (3) (by decide) rfl rfl 4 (by decide) (hg _ (List.mem_append_right _ (List.mem_append_right _ (List.mem_append_right _ (List.mem_append_right _ (List.mem_append_left _ (List.mem_of_getElem? (i := 12) rfl))))))) (fun _ h9 => h9) rfl d_LN_placeSigns_51 ?_
        refine z_get (ci := 2) (C := R_SH) (T := T_SH) (N := 3) (v := .int (iI (Mc (2) 2))) hx hb hg in_SH hown hK hP (2) (by decide) rfl rfl 2 (by decide) (hg _ (List.mem_append_right _ (List.mem_append_right _ (List.mem_append_right _ (List.mem_append_left _ (List.mem_of_getElem? (i := 10) rfl)))))) (fun _ h9 => h9) rfl d_LN_placeSigns_54 ?_
        refine ro_V (As := [.int (iI (x)), .int (iI (p_wbt (M 7) (M 8) so b (so - (k + 1)) (k + 1) 0)), .int (iI (Mc (2) 2))]) (rest := []) (z := p_tab n (M (31 + 4 * i)) (M (32 + 4 * i)) x (p_wbt (M 7) (M 8) so b (so - (k + 1)) (k + 1) 0) (M 2 2)) ⟨hx, hb, hml, hown, hg⟩ ((show p_tab n (Mc (31 + 4 * i)) (Mc (32 + 4 * i)) x (p_wbt (M 7) (M 8) so b (so - (k + 1)) (k + 1) 0) (Mc 2 2) = p_tab n (M (31 + 4 * i)) (M (32 + 4 * i)) x (p_wbt (M 7) (M 8) so b (so - (k + 1)) (k + 1) 0) (M 2 2) by rw [g31, g32, g2]) ▸ c_tabWidth l i n x (p_wbt (M 7) (M 8) so b (so - (k + 1)) (k + 1) 0) (Mc 2 2) (by omega) (by omega) hst1 hi hn hs1 hz1 hzk) (cwV 3 hg (gt_V (List.mem_append_right _ (List.mem_append_right _ (List.mem_append_right _ (List.mem_append_right _ (List.mem_append_right _ (List.mem_append_right _ (List.mem_append_left _ (List.mem_of_getElem? (i := 11) rfl)))))))) (List.mem_append_right _ (List.mem_append_right _ (List.mem_append_right _ (List.mem_append_right _ (List.mem_append_right _ (List.mem_append_right _ (List.mem_append_left _ (List.mem_of_getElem? (i := 12) rfl)))))))) (List.mem_append_right _ (List.mem_append_right _ (List.mem_append_right _ (List.mem_append_right _ (List.mem_append_right _ (List.mem_append_right _ (List.mem_append_left _ (List.mem_of_getElem? (i := 13) rfl)))))))) (List.mem_append_right _ (List.mem_append_left _ (List.mem_of_getElem? (i := 4) rfl))) (List.mem_append_right _ (List.mem_append_right _ (List.mem_append_right _ (List.mem_append_right _ (List.mem_append_right _ (List.mem_append_right _ (List.mem_append_left _ (List.mem_of_getElem? (i := 14) rfl))))))))) rfl rfl rfl (by decide +kernel) ⟨Nat.le_of_ble_eq_true rfl, Nat.le_of_ble_eq_true rfl⟩) hK hP (va_recv hK hP (ci := 6) (q0 := 29 + 4 * i) rfl (wl_atE (by omega) (pg_par _ _ _ _ _))) rfl hl.1 rfl (Nat.le_of_ble_eq_true rfl) d_LN_placeSigns_57 ⟨Nat.zero_le _, Nat.zero_le _⟩ ?_
        refine lv_goto (tgt := 85) hx hb d_LN_placeSigns_60 (by decide) ?_
        have hwd : p_tab n (M (31 + 4 * i)) (M (32 + 4 * i)) x (p_wbt (M 7) (M 8) so b (so - (k + 1)) (k + 1) 0) (M 2 2) = q_wide (M 7) (M 8) (p_tabs M i n) so b k x := by unfold q_wide; rw [if_pos (by rw [← g7]; exact c_35)]; rfl
        obtain ⟨qw, eqw⟩ : ∃ q_, q_ = q_wide (M 7) (M 8) (p_tabs M i n) so b k x := ⟨_, rfl⟩
        have hqb : 0 ≤ qw ∧ qw ≤ 60000 := by rw [eqw, ← hwd]; first | exact p_tabb hx0 (by omega) hst hz | (have := p_widb (kd := M 7) (wd := M 8) (i := k) (la := true) (ht.2.1 k); omega) | (have := p_widb (kd := M 7) (wd := M 8) (i := k) (la := false) (ht.2.1 k); omega)
        rw [hwd, ← eqw]
        refine lv_istore (lv' := [(8, .int (iI (qw))), (7, .int (iI (((k : Nat) : Int)))), (6, .int (iI (x))), (5, .int (iI (((so : Nat) : Int)))), (0, .ref (ad (3))), (1, .ref (ad (29 + 4 * i))), (2, .int (iI (((a : Nat) : Int)))), (3, .int (iI (((b : Nat) : Int)))), (4, .int (iI (x0)))]) hx hb d_LN_placeSigns_85 hl (by decide) rfl (fun ls hl => ?_)
        refine lv_aload_n hx hb d_LN_placeSigns_87 rfl (lv_at hl 4 rfl) ?_
        refine z_get (ci := 3) (C := R_LN) (T := T_LN) (N := 6) (v := .ref (ad (11))) hx hb hg in_LN hown hK hP (3) (by decide) rfl rfl 1 (by decide) (hg _ (List.mem_append_right _ (List.mem_append_right _ (List.mem_append_right _ (List.mem_append_right _ (List.mem_append_left _ (List.mem_of_getElem? (i := 6) rfl))))))) (fun _ h9 => h9) rfl d_LN_placeSigns_88 ?_
        refine z_iconst hx hb (z := 0) d_LN_placeSigns_91 ?_
        refine z_aald hx hb hK hP (11) 1 (by decide) (fun _ => rfl) rfl rfl (0) rfl (by decide) (by decide) d_LN_placeSigns_92 ?_
        refine lv_iload hx hb d_LN_placeSigns_93 (lv_at hl 1 rfl) ?_
        refine lv_aload_n hx hb d_LN_placeSigns_95 rfl (lv_at hl 4 rfl) ?_
        refine z_get (ci := 3) (C := R_LN) (T := T_LN) (N := 6) (v := .int (iI (Mc (3) 2))) hx hb hg in_LN hown hK hP (3) (by decide) rfl rfl 2 (by decide) (hg _ (List.mem_append_right _ (List.mem_append_right _ (List.mem_append_right _ (List.mem_append_right _ (List.mem_append_left _ (List.mem_of_getElem? (i := 8) rfl))))))) (fun _ h9 => h9) rfl d_LN_placeSigns_96 ?_
        refine z_iast hx hb hK hP hD hS (23) 0 (by decide) (fun _ => rfl) rfl (v := Mc (3) 2) (k) rfl (by omega) (by decide) d_LN_placeSigns_99 (fun H locs hP hD hS => ?_)
        obtain ⟨M_7, eM_7⟩ : ∃ q_, q_ = mset Mc (23) (k) (Mc (3) 2) := ⟨_, rfl⟩
        have hP : va_P D vwCl (pg_w ad cs rp M_7) H := by rw [eM_7]; exact hP
        have hD : va_D A (pg_w ad cs rp M_7) := by rw [eM_7]; exact hD
        refine lv_aload_n hx hb d_LN_placeSigns_100 rfl (lv_at hl 4 rfl) ?_
        refine z_get (ci := 3) (C := R_LN) (T := T_LN) (N := 6) (v := .ref (ad (11))) hx hb hg in_LN hown hK hP (3) (by decide) rfl rfl 1 (by decide) (hg _ (List.mem_append_right _ (List.mem_append_right _ (List.mem_append_right _ (List.mem_append_right _ (List.mem_append_left _ (List.mem_of_getElem? (i := 6) rfl))))))) (fun _ h9 => h9) rfl d_LN_placeSigns_101 ?_
        refine z_iconst hx hb (z := 1) d_LN_placeSigns_104 ?_
        refine z_aald hx hb hK hP (11) 1 (by decide) (fun _ => rfl) rfl rfl (1) rfl (by decide) (by decide) d_LN_placeSigns_105 ?_
        refine lv_iload hx hb d_LN_placeSigns_106 (lv_at hl 1 rfl) ?_
        refine lv_iload hx hb d_LN_placeSigns_108 (lv_at hl 2 rfl) ?_
        refine z_iast hx hb hK hP hD hS (24) 0 (by decide) (fun _ => rfl) rfl (v := x) (k) rfl (by omega) (by decide) d_LN_placeSigns_110 (fun H locs hP hD hS => ?_)
        obtain ⟨M_8, eM_8⟩ : ∃ q_, q_ = mset M_7 (24) (k) (x) := ⟨_, rfl⟩
        have hP : va_P D vwCl (pg_w ad cs rp M_8) H := by rw [eM_8]; exact hP
        have hD : va_D A (pg_w ad cs rp M_8) := by rw [eM_8]; exact hD
        refine lv_aload_n hx hb d_LN_placeSigns_111 rfl (lv_at hl 4 rfl) ?_
        refine z_get (ci := 3) (C := R_LN) (T := T_LN) (N := 6) (v := .ref (ad (11))) hx hb hg in_LN hown hK hP (3) (by decide) rfl rfl 1 (by decide) (hg _ (List.mem_append_right _ (List.mem_append_right _ (List.mem_append_right _ (List.mem_append_right _ (List.mem_append_left _ (List.mem_of_getElem? (i := 6) rfl))))))) (fun _ h9 => h9) rfl d_LN_placeSigns_112 ?_
        refine z_iconst hx hb (z := 2) d_LN_placeSigns_115 ?_
        refine z_aald hx hb hK hP (11) 1 (by decide) (fun _ => rfl) rfl rfl (2) rfl (by decide) (by decide) d_LN_placeSigns_116 ?_
        refine lv_iload hx hb d_LN_placeSigns_117 (lv_at hl 1 rfl) ?_
        refine lv_iload hx hb d_LN_placeSigns_119 (lv_at hl 0 rfl) ?_
        refine z_iast hx hb hK hP hD hS (25) 0 (by decide) (fun _ => rfl) rfl (v := qw) (k) rfl (by omega) (by decide) d_LN_placeSigns_121 (fun H locs hP hD hS => ?_)
        obtain ⟨M_9, eM_9⟩ : ∃ q_, q_ = mset M_8 (25) (k) (qw) := ⟨_, rfl⟩
        have hP : va_P D vwCl (pg_w ad cs rp M_9) H := by rw [eM_9]; exact hP
        have hD : va_D A (pg_w ad cs rp M_9) := by rw [eM_9]; exact hD
        refine lv_iload hx hb d_LN_placeSigns_122 (lv_at hl 2 rfl) ?_
        refine lv_iload hx hb d_LN_placeSigns_124 (lv_at hl 0 rfl) ?_
        refine z_iadd hx hb d_LN_placeSigns_126 (v := (x + qw)) rfl ?_
        refine lv_istore (lv' := [(6, .int (iI ((x + qw)))), (8, .int (iI (qw))), (7, .int (iI (((k : Nat) : Int)))), (5, .int (iI (((so : Nat) : Int)))), (0, .ref (ad (3))), (1, .ref (ad (29 + 4 * i))), (2, .int (iI (((a : Nat) : Int)))), (3, .int (iI (((b : Nat) : Int)))), (4, .int (iI (x0)))]) hx hb d_LN_placeSigns_127 hl (by decide) rfl (fun ls hl => ?_)
        refine z_iinc (v := ((k + 1 : Nat) : Int)) (lv' := [(7, .int (iI (((k + 1 : Nat) : Int)))), (6, .int (iI ((x + qw)))), (8, .int (iI (qw))), (5, .int (iI (((so : Nat) : Int)))), (0, .ref (ad (3))), (1, .ref (ad (29 + 4 * i))), (2, .int (iI (((a : Nat) : Int)))), (3, .int (iI (((b : Nat) : Int)))), (4, .int (iI (x0)))]) hx hb d_LN_placeSigns_129 hl (k := 2) rfl (by omega) (by decide) rfl (fun ls hl => ?_)
        refine lv_goto (tgt := 18) hx hb d_LN_placeSigns_132 (by decide) ?_
        have hF : q_ps (M 7) (M 8) (p_tabs M i n) (M 3 2) so b f (k + 1) (x + qw) M_9 = MF := by rw [← he, eM_9, eM_8, eM_7, g3]; conv => rhs; unfold q_ps; rw [← eqw]
        exact ih (k + 1) (x + qw) M_9 (by omega) (by omega) (by omega) (by rw [eM_9, eM_8, eM_7]; exact eqb_set (eqb_set (eqb_set hsm (by omega) (by omega)) (by omega) (by omega)) (by omega) (by omega)) hF H locs ls hP hD hS (lv_sub hl [0, 1, 3, 4, 5, 6, 7, 8] rfl)
set_option maxHeartbeats 4000000 in
set_option maxRecDepth 100000 in
/-- Lines.placeSigns -/
theorem c_placeSigns (l : Launch) {D : va_G} {ad : Nat → Nat} {cs : pg_C} {rp : Option Nat} {M : Nat → Nat → Int} (sz : Nat) (i n a b : Nat) (x0 : Int) (hab : a ≤ b) (hb6 : b ≤ 600) (hp : wfP M i n) (ht : wfT M) (hx0 : 0 ≤ x0 ∧ x0 ≤ 10000) : Met l y_LN_placeSigns ws_LN_placeSigns ({ frames := 3, cells := 0, slots := 0, locals := 68 } : Room) (va_Pc [.ref (ad (3)), .ref (ad (29 + 4 * i)), .int (iI (((a : Nat) : Int))), .int (iI (((b : Nat) : Int))), .int (iI (x0))] (rw_B D vwCl (pg_tys cs) (pg_w ad cs rp M) sz)) (va_Qv (fun _ : Unit => True) (rw_E D vwCl (pg_tys cs) (pg_w ad cs rp M) (pg_w ad cs rp (q_ps (M 7) (M 8) (p_tabs M i n) (M 3 2) (p_solid (M 7) a b) b (b - a) a x0 M)) sz) (va_A (pg_w ad cs rp M) sz)) 0 0 (va_A (pg_w ad cs rp M) sz) := by
  refine Met.ofW (cc := b_LN_placeSigns) (maxL := 9) (ret := none) (by decide) rfl ?_
  intro p e s m args below meth c s₁ B hml hv
  obtain ⟨rfl, hsz, hP, hK, hD0⟩ := hv
  have hx := B.exec
  have hb := B.bytes
  have hr := B.returns
  have hts := atoms_spec (ws := ws_LN_placeSigns) B.pre
  have hg : ∀ w ∈ gt, w.before _ s = true := fun w h => hts w (List.mem_cons_of_mem _ h)
  have hown : s.vm.findClass R_LN = some m.cls := findClass_of_methodNamed B.named
  have hlocks := B.notSynchronized
  subst hsz
  have hD := hD0.self (sz := s.heap.size)
  have hA : ∀ q : Nat, s.heap.size ≤ q → va_A (pg_w ad cs rp M) s.heap.size q := fun q h => Or.inr h
  have hS : va_S (va_A (pg_w ad cs rp M) s.heap.size) s.heap s.heap [] := va_S.rf
  have hl := lv_entry ([.ref (ad (3)), .ref (ad (29 + 4 * i)), .int (iI (((a : Nat) : Int))), .int (iI (((b : Nat) : Int))), .int (iI (x0))]) (n := 9) (Nat.le_of_ble_eq_true rfl)
  rw [lg_entry_eq]
  generalize (lg_sl ([.ref (ad (3)), .ref (ad (29 + 4 * i)), .int (iI (((a : Nat) : Int))), .int (iI (((b : Nat) : Int))), .int (iI (x0))]) ++ List.replicate (9 - (lg_sl ([.ref (ad (3)), .ref (ad (29 + 4 * i)), .int (iI (((a : Nat) : Int))), .int (iI (((b : Nat) : Int))), .int (iI (x0))])).length) Slot.unset).toArray = ls at hl ⊢
  have hl : lv_has ls 9 [(0, .ref (ad (3))), (1, .ref (ad (29 + 4 * i))), (2, .int (iI (((a : Nat) : Int)))), (3, .int (iI (((b : Nat) : Int)))), (4, .int (iI (x0)))] := hl
  obtain ⟨hi, hn, hs, hz, hz2⟩ := id hp
  have hso := p_solid_le (M 7) a b
  refine lv_aload_n hx hb d_LN_placeSigns_0 rfl (lv_at hl 0 rfl) ?_
  refine z_get (ci := 3) (C := R_LN) (T := T_LN) (N := 6) (v := .ref (ad (1))) hx hb hg in_LN hown hK hP (3) (by decide) rfl rfl 3 (by decide) (hg _ (List.mem_append_right _ (List.mem_append_right _ (List.mem_append_right _ (List.mem_append_right _ (List.mem_append_left _ (List.mem_of_getElem? (i := 11) rfl))))))) (fun _ h9 => h9) rfl d_LN_placeSigns_1 ?_
  refine lv_iload_n hx hb d_LN_placeSigns_4 rfl (lv_at hl 2 rfl) ?_
  refine lv_iload_n hx hb d_LN_placeSigns_5 rfl (lv_at hl 3 rfl) ?_
  refine ro_V (As := [.int (iI (((a : Nat) : Int))), .int (iI (((b : Nat) : Int)))]) (rest := []) (z := ((p_solid (M 7) a b : Nat) : Int)) ⟨hx, hb, hml, hown, hg⟩ (c_solidBehind l a b (by omega) hb6 (zb_7 ht)) (cwV 2 hg (gt_V (List.mem_append_right _ (List.mem_append_right _ (List.mem_append_right _ (List.mem_append_right _ (List.mem_append_right _ (List.mem_append_left _ (List.mem_of_getElem? (i := 33) rfl))))))) (List.mem_append_right _ (List.mem_append_right _ (List.mem_append_right _ (List.mem_append_right _ (List.mem_append_right _ (List.mem_append_left _ (List.mem_of_getElem? (i := 34) rfl))))))) (List.mem_append_right _ (List.mem_append_right _ (List.mem_append_right _ (List.mem_append_right _ (List.mem_append_right _ (List.mem_append_left _ (List.mem_of_getElem? (i := 35) rfl))))))) (List.mem_append_right _ (List.mem_append_left _ (List.mem_of_getElem? (i := 3) rfl))) (List.mem_append_right _ (List.mem_append_right _ (List.mem_append_right _ (List.mem_append_right _ (List.mem_append_right _ (List.mem_append_left _ (List.mem_of_getElem? (i := 36) rfl)))))))) rfl rfl rfl (by decide +kernel) ⟨Nat.le_of_ble_eq_true rfl, Nat.le_of_ble_eq_true rfl⟩) hK hP (va_recv hK hP (ci := 1) (q0 := 1) rfl (wl_atE (by decide) rfl)) rfl hl.1 rfl (Nat.le_of_ble_eq_true rfl) d_LN_placeSigns_6 ⟨Nat.zero_le _, Nat.zero_le _⟩ ?_
  refine lv_istore (lv' := [(5, .int (iI (((p_solid (M 7) a b : Nat) : Int)))), (0, .ref (ad (3))), (1, .ref (ad (29 + 4 * i))), (2, .int (iI (((a : Nat) : Int)))), (3, .int (iI (((b : Nat) : Int)))), (4, .int (iI (x0)))]) hx hb d_LN_placeSigns_9 hl (by decide) rfl (fun ls hl => ?_)
  refine lv_iload hx hb d_LN_placeSigns_11 (lv_at hl 5 rfl) ?_
  refine lv_istore (lv' := [(6, .int (iI (x0))), (5, .int (iI (((p_solid (M 7) a b : Nat) : Int)))), (0, .ref (ad (3))), (1, .ref (ad (29 + 4 * i))), (2, .int (iI (((a : Nat) : Int)))), (3, .int (iI (((b : Nat) : Int)))), (4, .int (iI (x0)))]) hx hb d_LN_placeSigns_13 hl (by decide) rfl (fun ls hl => ?_)
  refine lv_iload_n hx hb d_LN_placeSigns_15 rfl (lv_at hl 4 rfl) ?_
  refine lv_istore (lv' := [(7, .int (iI (((a : Nat) : Int)))), (6, .int (iI (x0))), (5, .int (iI (((p_solid (M 7) a b : Nat) : Int)))), (0, .ref (ad (3))), (1, .ref (ad (29 + 4 * i))), (2, .int (iI (((a : Nat) : Int)))), (3, .int (iI (((b : Nat) : Int)))), (4, .int (iI (x0)))]) hx hb d_LN_placeSigns_16 hl (by decide) rfl (fun ls hl => ?_)
  refine lp_placeSigns hx hb hml hg hown hK hA i n a b (p_solid (M 7) a b) x0 hb6 (by omega) hp ht (q_ps (M 7) (M 8) (p_tabs M i n) (M 3 2) (p_solid (M 7) a b) b (b - a) a x0 M) (fun H locs ls hP hD hS hl => ?_) (b - a) a x0 M (by omega) hx0.1 (by omega) eqb_rf rfl s.heap [] ls hP hD hS (lv_sub hl [0, 1, 2, 3, 4, 5, 6, 7] rfl)
  have hM : q_ps (M 7) (M 8) (p_tabs M i n) (M 3 2) (p_solid (M 7) a b) b (b - a) a x0 M = q_ps (M 7) (M 8) (p_tabs M i n) (M 3 2) (p_solid (M 7) a b) b (b - a) a x0 M := rfl
  have eW : pg_w ad cs rp (q_ps (M 7) (M 8) (p_tabs M i n) (M 3 2) (p_solid (M 7) a b) b (b - a) a x0 M) = pg_w ad cs rp (q_ps (M 7) (M 8) (p_tabs M i n) (M 3 2) (p_solid (M 7) a b) b (b - a) a x0 M) := by rw [hM]
  have hP := Eq.mp (congrArg (fun q => va_P D vwCl q _) eW) hP
  have hD := Eq.mp (congrArg (va_D _) eW) hD
  exact W.vret hx hb hr (fun t ht hW => ⟨⟨(), rfl, trivial, by rw [ht]; exact hP, va_K.moved hW.alike hK, hD⟩, hS.F ht⟩) hS.2.2 d_LN_placeSigns_135
end
section
/-! Lines' alignment and its lines, as functions on the memory. My own. -/
/-- sharing the rest out: nothing without gaps -/
def q_wgM (M : Nat → Nat → Int) (a b : Nat) (rest : Int) : Nat → Nat → Int :=
  if q_gc (M 7) (p_solid (M 7) a b - p_blt (M 7) a b) (p_blt (M 7) a b) 0 < 1 then M
  else q_wg (M 7) (p_solid (M 7) a b) (rest.tdiv ((q_gc (M 7) (p_solid (M 7) a b - p_blt (M 7) a b) (p_blt (M 7) a b) 0 : Nat) : Int)) (b - p_blt (M 7) a b) (p_blt (M 7) a b) (rest - rest.tdiv ((q_gc (M 7) (p_solid (M 7) a b - p_blt (M 7) a b) (p_blt (M 7) a b) 0 : Nat) : Int) * ((q_gc (M 7) (p_solid (M 7) a b - p_blt (M 7) a b) (p_blt (M 7) a b) 0 : Nat) : Int)) 0 M
def q_wgV (M : Nat → Nat → Int) (a b : Nat) (rest : Int) : Int := if q_gc (M 7) (p_solid (M 7) a b - p_blt (M 7) a b) (p_blt (M 7) a b) 0 < 1 then 0 else rest
theorem p_blt_le (kd : Nat → Int) (a : Nat) : ∀ s, p_blt kd a s ≤ s := by
  intro s
  induction s with
  | zero => exact Nat.le_refl 0
  | succ s ih =>
    unfold p_blt
    split
    · omega
    · exact Nat.le_refl _
theorem q_rem {r : Int} {g : Nat} (hr : 0 ≤ r) (hg : 1 ≤ g) : 0 ≤ r - r.tdiv ((g : Nat) : Int) * ((g : Nat) : Int) ∧ r - r.tdiv ((g : Nat) : Int) * ((g : Nat) : Int) < ((g : Nat) : Int) := by
  rw [Int.tdiv_eq_ediv_of_nonneg hr]
  have h2 := Int.emod_def r ((g : Nat) : Int)
  have h3 := Int.emod_nonneg r (show ((g : Nat) : Int) ≠ 0 by omega)
  have h4 := Int.emod_lt_of_pos r (show 0 < ((g : Nat) : Int) by omega)
  have h5 : r / ((g : Nat) : Int) * ((g : Nat) : Int) = ((g : Nat) : Int) * (r / ((g : Nat) : Int)) := Int.mul_comm _ _
  rw [h5]
  omega
theorem q_wgM_eq (M : Nat → Nat → Int) (a b : Nat) (rest : Int) : eqb 23 25 (q_wgM M a b rest) M := by
  unfold q_wgM
  split
  · exact eqb_rf
  · exact q_wg_eq _ _ _ _ _ _ _ _
end
section
set_option maxHeartbeats 4000000 in
set_option maxRecDepth 100000 in
theorem lp_widenGaps1 {p : Program} {l : Launch} {e : Env} {s : State} {m : MethodId} {args : Array Value} {below : List Frame} {meth : Method} {c : Code} {H : Heap} {locs : List Loc} {Q : State → Prop} {D : va_G} {ad : Nat → Nat} {cs : pg_C} {rp : Option Nat} {M : Nat → Nat → Int} (hx : p.tables.exec = Jvm.exec) (hb : c.code = b_LN_widenGaps) (hml : c.maxLocals = 11) (hg : ∀ w ∈ gt, w.before args s = true) (hown : s.vm.findClass R_LN = some m.cls) (hK : va_K D vwCl (pg_tys cs) s) (hP : va_P D vwCl (pg_w ad cs rp M) H) (a b so fr t : Nat) (rest : Int) (hso : so ≤ 600) (ht : wfT M) (kk : ∀ ls : Array Slot, lv_has ls 11 [(6, .int (iI (((t : Nat) : Int)))), (5, .int (iI (((fr : Nat) : Int)))), (4, .int (iI (((so : Nat) : Int)))), (0, .ref (ad (3))), (1, .int (iI (((a : Nat) : Int)))), (2, .int (iI (((b : Nat) : Int)))), (3, .int (iI (rest)))] → W p l e ({ frames := 2, cells := 0, slots := 0, locals := 44 } : Room) s m args below meth c H locs 0 0 Q (F0 m 63 ls [])) : ∀ (f k g : Nat) (ls : Array Slot), (k + f = so ∨ (f = 0 ∧ so ≤ k)) → k ≤ 600 → q_gc (M 7) f k g = t → lv_has ls 11 [(7, .int (iI (((k : Nat) : Int)))), (6, .int (iI (((g : Nat) : Int)))), (5, .int (iI (((fr : Nat) : Int)))), (4, .int (iI (((so : Nat) : Int)))), (0, .ref (ad (3))), (1, .int (iI (((a : Nat) : Int)))), (2, .int (iI (((b : Nat) : Int)))), (3, .int (iI (rest)))] → W p l e ({ frames := 2, cells := 0, slots := 0, locals := 44 } : Room) s m args below meth c H locs 0 0 Q (F0 m 26 ls []) := by
  intro f
  induction f with
  | zero =>
    intro k g ls hf hk6 he hl
    refine lv_iload hx hb d_LN_widenGaps_26 (lv_at hl 0 rfl) ?_
    refine lv_iload hx hb d_LN_widenGaps_28 (lv_at hl 3 rfl) ?_
    refine z_icmp_ge hx hb (tgt := 63) d_LN_widenGaps_30 (by decide) ⟨by omega, by omega⟩ ⟨by omega, by omega⟩ (fun c_30 => ?_) (fun c_30 => ?_)
    · have he : g = t := he
      subst he
      exact kk ls (lv_sub hl [1, 2, 3, 4, 5, 6, 7] rfl)
    · exact absurd c_30 (by omega)
  | succ f ih =>
    intro k g ls hf hk6 he hl
    refine lv_iload hx hb d_LN_widenGaps_26 (lv_at hl 0 rfl) ?_
    refine lv_iload hx hb d_LN_widenGaps_28 (lv_at hl 3 rfl) ?_
    refine z_icmp_ge hx hb (tgt := 63) d_LN_widenGaps_30 (by decide) ⟨by omega, by omega⟩ ⟨by omega, by omega⟩ (fun c_30 => ?_) (fun c_30 => ?_)
    · exact absurd c_30 (by omega)
    · refine lv_iload hx hb d_LN_widenGaps_33 (lv_at hl 1 rfl) ?_
      refine lv_aload_n hx hb d_LN_widenGaps_35 rfl (lv_at hl 4 rfl) ?_
      refine z_get (ci := 3) (C := R_LN) (T := T_LN) (N := 6) (v := .ref (ad (1))) hx hb hg in_LN hown hK hP (3) (by decide) rfl rfl 3 (by decide) (hg _ (List.mem_append_right _ (List.mem_append_right _ (List.mem_append_right _ (List.mem_append_right _ (List.mem_append_left _ (List.mem_of_getElem? (i := 11) rfl))))))) (fun _ h9 => h9) rfl d_LN_widenGaps_36 ?_
      refine z_get (ci := 1) (C := R_TX) (T := T_TX) (N := 6) (v := .ref (ad (7))) hx hb hg in_TX hown hK hP (1) (by decide) rfl rfl 1 (by decide) (hg _ (List.mem_append_right _ (List.mem_append_right _ (List.mem_append_left _ (List.mem_of_getElem? (i := 22) rfl))))) (fun _ h9 => h9) rfl d_LN_widenGaps_39 ?_
      refine lv_iload hx hb d_LN_widenGaps_42 (lv_at hl 0 rfl) ?_
      refine z_iald hx hb hK hP (7) 0 (by decide) (fun _ => rfl) rfl (k) rfl (by omega) (by decide) d_LN_widenGaps_44 ?_
      refine z_iconst hx hb (z := 1) d_LN_widenGaps_45 ?_
      refine z_icmp_ne hx hb (tgt := 53) d_LN_widenGaps_46 (by decide) (zb_7 ht _) ⟨by decide, by decide⟩ (fun c_46 => ?_) (fun c_46 => ?_)
      · refine z_iconst hx hb (z := 0) d_LN_widenGaps_53 ?_
        refine z_iadd hx hb d_LN_widenGaps_54 (v := ((g + 0 : Nat) : Int)) (by omega) ?_
        refine lv_istore (lv' := [(6, .int (iI (((g + 0 : Nat) : Int)))), (7, .int (iI (((k : Nat) : Int)))), (5, .int (iI (((fr : Nat) : Int)))), (4, .int (iI (((so : Nat) : Int)))), (0, .ref (ad (3))), (1, .int (iI (((a : Nat) : Int)))), (2, .int (iI (((b : Nat) : Int)))), (3, .int (iI (rest)))]) hx hb d_LN_widenGaps_55 hl (by decide) rfl (fun ls hl => ?_)
        refine z_iinc (v := ((k + 1 : Nat) : Int)) (lv' := [(7, .int (iI (((k + 1 : Nat) : Int)))), (6, .int (iI (((g + 0 : Nat) : Int)))), (5, .int (iI (((fr : Nat) : Int)))), (4, .int (iI (((so : Nat) : Int)))), (0, .ref (ad (3))), (1, .int (iI (((a : Nat) : Int)))), (2, .int (iI (((b : Nat) : Int)))), (3, .int (iI (rest)))]) hx hb d_LN_widenGaps_57 hl (k := 1) rfl (by omega) (by decide) rfl (fun ls hl => ?_)
        refine lv_goto (tgt := 26) hx hb d_LN_widenGaps_60 (by decide) ?_
        exact ih (k + 1) (g + 0) ls (by omega) (by omega) (by rw [← he]; conv => rhs; unfold q_gc; rw [if_neg c_46]) (lv_sub hl [0, 1, 2, 3, 4, 5, 6, 7] rfl)
      · refine z_iconst hx hb (z := 1) d_LN_widenGaps_49 ?_
        refine lv_goto (tgt := 54) hx hb d_LN_widenGaps_50 (by decide) ?_
        refine z_iadd hx hb d_LN_widenGaps_54 (v := ((g + 1 : Nat) : Int)) (by omega) ?_
        refine lv_istore (lv' := [(6, .int (iI (((g + 1 : Nat) : Int)))), (7, .int (iI (((k : Nat) : Int)))), (5, .int (iI (((fr : Nat) : Int)))), (4, .int (iI (((so : Nat) : Int)))), (0, .ref (ad (3))), (1, .int (iI (((a : Nat) : Int)))), (2, .int (iI (((b : Nat) : Int)))), (3, .int (iI (rest)))]) hx hb d_LN_widenGaps_55 hl (by decide) rfl (fun ls hl => ?_)
        refine z_iinc (v := ((k + 1 : Nat) : Int)) (lv' := [(7, .int (iI (((k + 1 : Nat) : Int)))), (6, .int (iI (((g + 1 : Nat) : Int)))), (5, .int (iI (((fr : Nat) : Int)))), (4, .int (iI (((so : Nat) : Int)))), (0, .ref (ad (3))), (1, .int (iI (((a : Nat) : Int)))), (2, .int (iI (((b : Nat) : Int)))), (3, .int (iI (rest)))]) hx hb d_LN_widenGaps_57 hl (k := 1) rfl (by omega) (by decide) rfl (fun ls hl => ?_)
        refine lv_goto (tgt := 26) hx hb d_LN_widenGaps_60 (by decide) ?_
        exact ih (k + 1) (g + 1) ls (by omega) (by omega) (by rw [← he]; conv => rhs; unfold q_gc; rw [if_pos c_46]) (lv_sub hl [0, 1, 2, 3, 4, 5, 6, 7] rfl)
set_option maxHeartbeats 4000000 in
set_option maxRecDepth 100000 in
theorem lp_widenGaps2 {p : Program} {l : Launch} {e : Env} {s : State} {m : MethodId} {args : Array Value} {below : List Frame} {meth : Method} {c : Code} {Q : State → Prop} {A : Nat → Prop} {H0 : Heap} {D : va_G} {ad : Nat → Nat} {cs : pg_C} {rp : Option Nat} {M : Nat → Nat → Int} (hx : p.tables.exec = Jvm.exec) (hb : c.code = b_LN_widenGaps) (hml : c.maxLocals = 11) (hg : ∀ w ∈ gt, w.before args s = true) (hown : s.vm.findClass R_LN = some m.cls) (hK : va_K D vwCl (pg_tys cs) s) (hA : ∀ q, H0.size ≤ q → A q) (a b so fr g : Nat) (rest each : Int) (hso : so ≤ 600) (hb6 : b ≤ 600) (hg1 : 1 ≤ g) (hg6 : g ≤ 600) (hre : 0 ≤ rest ∧ rest ≤ 30000) (heach : rest.tdiv ((g : Nat) : Int) = each) (ht : wfT M) (MF : Nat → Nat → Int) (kk : ∀ (H : Heap) (locs : List Loc) (ls : Array Slot), va_P D vwCl (pg_w ad cs rp MF) H → va_D A (pg_w ad cs rp MF) → va_S A H0 H locs → lv_has ls 11 [(3, .int (iI rest))] → W p l e ({ frames := 2, cells := 0, slots := 0, locals := 44 } : Room) s m args below meth c H locs 0 0 Q (F0 m 172 ls [])) : ∀ (f k : Nat) (rem mv : Int) (Mc : Nat → Nat → Int), (k + f = b ∨ (f = 0 ∧ b ≤ k)) → k ≤ 600 → ((f : Nat) : Int) ≤ rem + 700 → rem ≤ 1000 → eqb 23 25 Mc M → q_wg (M 7) so each f k rem mv Mc = MF → ∀ (H : Heap) (locs : List Loc) (ls : Array Slot), va_P D vwCl (pg_w ad cs rp Mc) H → va_D A (pg_w ad cs rp Mc) → va_S A H0 H locs → lv_has ls 11 [(9, .int (iI (((k : Nat) : Int)))), (8, .int (iI (mv))), (7, .int (iI (rem))), (6, .int (iI (((g : Nat) : Int)))), (5, .int (iI (((fr : Nat) : Int)))), (4, .int (iI (((so : Nat) : Int)))), (0, .ref (ad (3))), (1, .int (iI (((a : Nat) : Int)))), (2, .int (iI (((b : Nat) : Int)))), (3, .int (iI (rest)))] → W p l e ({ frames := 2, cells := 0, slots := 0, locals := 44 } : Room) s m args below meth c H locs 0 0 Q (F0 m 84 ls []) := by
  intro f
  induction f with
  | zero =>
    intro k rem mv Mc hkf hk6 hr1 hr2 hsm he H locs ls hP hD hS hl
    have g7 : Mc 7 = M 7 := hsm 7 (by omega)
    have ht1 : wfT Mc := eqb_wfT hsm (by omega) ht
    refine lv_iload hx hb d_LN_widenGaps_84 (lv_at hl 0 rfl) ?_
    refine lv_iload_n hx hb d_LN_widenGaps_86 rfl (lv_at hl 8 rfl) ?_
    refine z_icmp_ge hx hb (tgt := 172) d_LN_widenGaps_87 (by decide) ⟨by omega, by omega⟩ ⟨by omega, by omega⟩ (fun c_87 => ?_) (fun c_87 => ?_)
    · have he : Mc = MF := he
      subst he
      exact kk H locs ls hP hD hS (lv_sub hl [9] rfl)
    · exact absurd c_87 (by omega)
  | succ f ih =>
    intro k rem mv Mc hkf hk6 hr1 hr2 hsm he H locs ls hP hD hS hl
    have g7 : Mc 7 = M 7 := hsm 7 (by omega)
    have ht1 : wfT Mc := eqb_wfT hsm (by omega) ht
    refine lv_iload hx hb d_LN_widenGaps_84 (lv_at hl 0 rfl) ?_
    refine lv_iload_n hx hb d_LN_widenGaps_86 rfl (lv_at hl 8 rfl) ?_
    refine z_icmp_ge hx hb (tgt := 172) d_LN_widenGaps_87 (by decide) ⟨by omega, by omega⟩ ⟨by omega, by omega⟩ (fun c_87 => ?_) (fun c_87 => ?_)
    · exact absurd c_87 (by omega)
    · refine lv_aload_n hx hb d_LN_widenGaps_90 rfl (lv_at hl 6 rfl) ?_
      refine z_get (ci := 3) (C := R_LN) (T := T_LN) (N := 6) (v := .ref (ad (11))) hx hb hg in_LN hown hK hP (3) (by decide) rfl rfl 1 (by decide) (hg _ (List.mem_append_right _ (List.mem_append_right _ (List.mem_append_right _ (List.mem_append_right _ (List.mem_append_left _ (List.mem_of_getElem? (i := 6) rfl))))))) (fun _ h9 => h9) rfl d_LN_widenGaps_91 ?_
      refine z_iconst hx hb (z := 1) d_LN_widenGaps_94 ?_
      refine z_aald hx hb hK hP (11) 1 (by decide) (fun _ => rfl) rfl rfl (1) rfl (by decide) (by decide) d_LN_widenGaps_95 ?_
      refine lv_iload hx hb d_LN_widenGaps_96 (lv_at hl 0 rfl) ?_
      refine lv_dup2_11 hx hb d_LN_widenGaps_98 rfl rfl ?_
      refine z_iald hx hb hK hP (24) 0 (by decide) (fun _ => rfl) rfl (k) rfl (by omega) (by decide) d_LN_widenGaps_99 ?_
      refine lv_iload hx hb d_LN_widenGaps_100 (lv_at hl 1 rfl) ?_
      refine z_iadd hx hb d_LN_widenGaps_102 (v := (Mc (24) (k) + mv)) rfl ?_
      refine z_iast hx hb hK hP hD hS (24) 0 (by decide) (fun _ => rfl) rfl (v := (Mc (24) (k) + mv)) (k) rfl (by omega) (by decide) d_LN_widenGaps_103 (fun H locs hP hD hS => ?_)
      obtain ⟨M_1, eM_1⟩ : ∃ q_, q_ = mset Mc (24) (k) ((Mc (24) (k) + mv)) := ⟨_, rfl⟩
      have hP : va_P D vwCl (pg_w ad cs rp M_1) H := by rw [eM_1]; exact hP
      have hD : va_D A (pg_w ad cs rp M_1) := by rw [eM_1]; exact hD
      have q7 : M_1 7 = Mc 7 := by rw [eM_1]; exact mset_ne (by omega)
      have q25 : M_1 25 = Mc 25 := by rw [eM_1]; exact mset_ne (by omega)
      refine lv_iload hx hb d_LN_widenGaps_104 (lv_at hl 0 rfl) ?_
      refine lv_iload hx hb d_LN_widenGaps_106 (lv_at hl 5 rfl) ?_
      refine z_icmp_ge hx hb (tgt := 166) d_LN_widenGaps_108 (by decide) ⟨by omega, by omega⟩ ⟨by omega, by omega⟩ (fun c_108 => ?_) (fun c_108 => ?_)
      · refine z_iinc (v := ((k + 1 : Nat) : Int)) (lv' := [(9, .int (iI (((k + 1 : Nat) : Int)))), (8, .int (iI (mv))), (7, .int (iI (rem))), (6, .int (iI (((g : Nat) : Int)))), (5, .int (iI (((fr : Nat) : Int)))), (4, .int (iI (((so : Nat) : Int)))), (0, .ref (ad (3))), (1, .int (iI (((a : Nat) : Int)))), (2, .int (iI (((b : Nat) : Int)))), (3, .int (iI (rest)))]) hx hb d_LN_widenGaps_166 hl (k := 0) rfl (by omega) (by decide) rfl (fun ls hl => ?_)
        refine lv_goto (tgt := 84) hx hb d_LN_widenGaps_169 (by decide) ?_
        have hF : q_wg (M 7) so each f (k + 1) rem mv M_1 = MF := by rw [← he, eM_1]; conv => rhs; unfold q_wg; rw [if_neg (fun h => by omega)]
        exact ih (k + 1) rem mv M_1 (by omega) (by omega) (by omega) (by omega) (by rw [eM_1]; exact eqb_set hsm (by omega) (by omega)) hF H locs ls hP hD hS (lv_sub hl [0, 1, 2, 3, 4, 5, 6, 7, 8, 9] rfl)
      · refine lv_aload_n hx hb d_LN_widenGaps_111 rfl (lv_at hl 6 rfl) ?_
        refine z_get (ci := 3) (C := R_LN) (T := T_LN) (N := 6) (v := .ref (ad (1))) hx hb hg in_LN hown hK hP (3) (by decide) rfl rfl 3 (by decide) (hg _ (List.mem_append_right _ (List.mem_append_right _ (List.mem_append_right _ (List.mem_append_right _ (List.mem_append_left _ (List.mem_of_getElem? (i := 11) rfl))))))) (fun _ h9 => h9) rfl d_LN_widenGaps_112 ?_
        refine z_get (ci := 1) (C := R_TX) (T := T_TX) (N := 6) (v := .ref (ad (7))) hx hb hg in_TX hown hK hP (1) (by decide) rfl rfl 1 (by decide) (hg _ (List.mem_append_right _ (List.mem_append_right _ (List.mem_append_left _ (List.mem_of_getElem? (i := 22) rfl))))) (fun _ h9 => h9) rfl d_LN_widenGaps_115 ?_
        refine lv_iload hx hb d_LN_widenGaps_118 (lv_at hl 0 rfl) ?_
        refine z_iald hx hb hK hP (7) 0 (by decide) (fun _ => rfl) rfl (k) rfl (by omega) (by decide) d_LN_widenGaps_120 ?_
        refine z_iconst hx hb (z := 1) d_LN_widenGaps_121 ?_
        refine z_icmp_ne hx hb (tgt := 166) d_LN_widenGaps_122 (by decide) (by rw [q7]; exact zb_7 ht1 _) ⟨by decide, by decide⟩ (fun c_122 => ?_) (fun c_122 => ?_)
        · refine z_iinc (v := ((k + 1 : Nat) : Int)) (lv' := [(9, .int (iI (((k + 1 : Nat) : Int)))), (8, .int (iI (mv))), (7, .int (iI (rem))), (6, .int (iI (((g : Nat) : Int)))), (5, .int (iI (((fr : Nat) : Int)))), (4, .int (iI (((so : Nat) : Int)))), (0, .ref (ad (3))), (1, .int (iI (((a : Nat) : Int)))), (2, .int (iI (((b : Nat) : Int)))), (3, .int (iI (rest)))]) hx hb d_LN_widenGaps_166 hl (k := 0) rfl (by omega) (by decide) rfl (fun ls hl => ?_)
          refine lv_goto (tgt := 84) hx hb d_LN_widenGaps_169 (by decide) ?_
          have hF : q_wg (M 7) so each f (k + 1) rem mv M_1 = MF := by rw [← he, eM_1]; conv => rhs; unfold q_wg; rw [if_neg (fun h => c_122 (by rw [q7, g7]; exact h.2))]
          exact ih (k + 1) rem mv M_1 (by omega) (by omega) (by omega) (by omega) (by rw [eM_1]; exact eqb_set hsm (by omega) (by omega)) hF H locs ls hP hD hS (lv_sub hl [0, 1, 2, 3, 4, 5, 6, 7, 8, 9] rfl)
        · refine lv_iload_n hx hb d_LN_widenGaps_125 rfl (lv_at hl 9 rfl) ?_
          refine lv_iload hx hb d_LN_widenGaps_126 (lv_at hl 3 rfl) ?_
          refine z_idiv hx hb d_LN_widenGaps_128 ⟨by omega, by omega⟩ ⟨by omega, by omega⟩ (by omega) (v := ((rest).tdiv (((g : Nat) : Int)))) rfl ?_
          refine lv_iload hx hb d_LN_widenGaps_129 (lv_at hl 2 rfl) ?_
          refine z_if_le hx hb (tgt := 138) d_LN_widenGaps_131 (by decide) ⟨by omega, by omega⟩ (fun c_131 => ?_) (fun c_131 => ?_)
          · refine z_iconst hx hb (z := 0) d_LN_widenGaps_138 ?_
            refine z_iadd hx hb d_LN_widenGaps_139 (v := (((rest).tdiv (((g : Nat) : Int))) + 0)) rfl ?_
            refine lv_istore (lv' := [(10, .int (iI ((((rest).tdiv (((g : Nat) : Int))) + 0)))), (9, .int (iI (((k : Nat) : Int)))), (8, .int (iI (mv))), (7, .int (iI (rem))), (6, .int (iI (((g : Nat) : Int)))), (5, .int (iI (((fr : Nat) : Int)))), (4, .int (iI (((so : Nat) : Int)))), (0, .ref (ad (3))), (1, .int (iI (((a : Nat) : Int)))), (2, .int (iI (((b : Nat) : Int)))), (3, .int (iI (rest)))]) hx hb d_LN_widenGaps_140 hl (by decide) rfl (fun ls hl => ?_)
            refine lv_aload_n hx hb d_LN_widenGaps_142 rfl (lv_at hl 7 rfl) ?_
            refine z_get (ci := 3) (C := R_LN) (T := T_LN) (N := 6) (v := .ref (ad (11))) hx hb hg in_LN hown hK hP (3) (by decide) rfl rfl 1 (by decide) (hg _ (List.mem_append_right _ (List.mem_append_right _ (List.mem_append_right _ (List.mem_append_right _ (List.mem_append_left _ (List.mem_of_getElem? (i := 6) rfl))))))) (fun _ h9 => h9) rfl d_LN_widenGaps_143 ?_
            refine z_iconst hx hb (z := 2) d_LN_widenGaps_146 ?_
            refine z_aald hx hb hK hP (11) 1 (by decide) (fun _ => rfl) rfl rfl (2) rfl (by decide) (by decide) d_LN_widenGaps_147 ?_
            refine lv_iload hx hb d_LN_widenGaps_148 (lv_at hl 1 rfl) ?_
            refine lv_dup2_11 hx hb d_LN_widenGaps_150 rfl rfl ?_
            refine z_iald hx hb hK hP (25) 0 (by decide) (fun _ => rfl) rfl (k) rfl (by omega) (by decide) d_LN_widenGaps_151 ?_
            refine lv_iload hx hb d_LN_widenGaps_152 (lv_at hl 0 rfl) ?_
            refine z_iadd hx hb d_LN_widenGaps_154 (v := (M_1 (25) (k) + (((rest).tdiv (((g : Nat) : Int))) + 0))) rfl ?_
            refine z_iast hx hb hK hP hD hS (25) 0 (by decide) (fun _ => rfl) rfl (v := (M_1 (25) (k) + (((rest).tdiv (((g : Nat) : Int))) + 0))) (k) rfl (by omega) (by decide) d_LN_widenGaps_155 (fun H locs hP hD hS => ?_)
            obtain ⟨M_2, eM_2⟩ : ∃ q_, q_ = mset M_1 (25) (k) ((M_1 (25) (k) + (((rest).tdiv (((g : Nat) : Int))) + 0))) := ⟨_, rfl⟩
            have hP : va_P D vwCl (pg_w ad cs rp M_2) H := by rw [eM_2]; exact hP
            have hD : va_D A (pg_w ad cs rp M_2) := by rw [eM_2]; exact hD
            refine lv_iload hx hb d_LN_widenGaps_156 (lv_at hl 2 rfl) ?_
            refine lv_iload hx hb d_LN_widenGaps_158 (lv_at hl 0 rfl) ?_
            refine z_iadd hx hb d_LN_widenGaps_160 (v := (mv + (((rest).tdiv (((g : Nat) : Int))) + 0))) rfl ?_
            refine lv_istore (lv' := [(8, .int (iI ((mv + (((rest).tdiv (((g : Nat) : Int))) + 0))))), (10, .int (iI ((((rest).tdiv (((g : Nat) : Int))) + 0)))), (9, .int (iI (((k : Nat) : Int)))), (7, .int (iI (rem))), (6, .int (iI (((g : Nat) : Int)))), (5, .int (iI (((fr : Nat) : Int)))), (4, .int (iI (((so : Nat) : Int)))), (0, .ref (ad (3))), (1, .int (iI (((a : Nat) : Int)))), (2, .int (iI (((b : Nat) : Int)))), (3, .int (iI (rest)))]) hx hb d_LN_widenGaps_161 hl (by decide) rfl (fun ls hl => ?_)
            refine z_iinc (v := (rem - 1)) (lv' := [(7, .int (iI ((rem - 1)))), (8, .int (iI ((mv + (((rest).tdiv (((g : Nat) : Int))) + 0))))), (10, .int (iI ((((rest).tdiv (((g : Nat) : Int))) + 0)))), (9, .int (iI (((k : Nat) : Int)))), (6, .int (iI (((g : Nat) : Int)))), (5, .int (iI (((fr : Nat) : Int)))), (4, .int (iI (((so : Nat) : Int)))), (0, .ref (ad (3))), (1, .int (iI (((a : Nat) : Int)))), (2, .int (iI (((b : Nat) : Int)))), (3, .int (iI (rest)))]) hx hb d_LN_widenGaps_163 hl (k := 3) rfl (by omega) (by decide) rfl (fun ls hl => ?_)
            refine z_iinc (v := ((k + 1 : Nat) : Int)) (lv' := [(9, .int (iI (((k + 1 : Nat) : Int)))), (7, .int (iI ((rem - 1)))), (8, .int (iI ((mv + (((rest).tdiv (((g : Nat) : Int))) + 0))))), (10, .int (iI ((((rest).tdiv (((g : Nat) : Int))) + 0)))), (6, .int (iI (((g : Nat) : Int)))), (5, .int (iI (((fr : Nat) : Int)))), (4, .int (iI (((so : Nat) : Int)))), (0, .ref (ad (3))), (1, .int (iI (((a : Nat) : Int)))), (2, .int (iI (((b : Nat) : Int)))), (3, .int (iI (rest)))]) hx hb d_LN_widenGaps_166 hl (k := 3) rfl (by omega) (by decide) rfl (fun ls hl => ?_)
            refine lv_goto (tgt := 84) hx hb d_LN_widenGaps_169 (by decide) ?_
            have hF : q_wg (M 7) so each f (k + 1) (rem - 1) (mv + (each + if 0 < rem then 1 else 0)) (mset (mset Mc 24 k (Mc 24 k + mv)) 25 k (Mc 25 k + (each + if 0 < rem then 1 else 0))) = MF := by rw [← he]; conv => rhs; unfold q_wg; rw [if_pos ⟨by omega, by rw [← g7, ← q7]; exact c_122⟩]
            rw [if_neg (by omega)] at hF
            have hMM : M_2 = mset (mset Mc 24 k (Mc 24 k + mv)) 25 k (Mc 25 k + (each + 0)) := by rw [eM_2, q25, heach, eM_1]
            rw [← hMM] at hF
            exact ih (k + 1) (rem - 1) (mv + (each + 0)) M_2 (by omega) (by omega) (by omega) (by omega) (by rw [hMM]; exact eqb_set (eqb_set hsm (by omega) (by omega)) (by omega) (by omega)) hF H locs ls hP hD hS (by rw [heach] at hl; exact lv_sub hl [0, 2, 1, 4, 5, 6, 7, 8, 9, 10] rfl)
          · refine z_iconst hx hb (z := 1) d_LN_widenGaps_134 ?_
            refine lv_goto (tgt := 139) hx hb d_LN_widenGaps_135 (by decide) ?_
            refine z_iadd hx hb d_LN_widenGaps_139 (v := (((rest).tdiv (((g : Nat) : Int))) + 1)) rfl ?_
            refine lv_istore (lv' := [(10, .int (iI ((((rest).tdiv (((g : Nat) : Int))) + 1)))), (9, .int (iI (((k : Nat) : Int)))), (8, .int (iI (mv))), (7, .int (iI (rem))), (6, .int (iI (((g : Nat) : Int)))), (5, .int (iI (((fr : Nat) : Int)))), (4, .int (iI (((so : Nat) : Int)))), (0, .ref (ad (3))), (1, .int (iI (((a : Nat) : Int)))), (2, .int (iI (((b : Nat) : Int)))), (3, .int (iI (rest)))]) hx hb d_LN_widenGaps_140 hl (by decide) rfl (fun ls hl => ?_)
            refine lv_aload_n hx hb d_LN_widenGaps_142 rfl (lv_at hl 7 rfl) ?_
            refine z_get (ci := 3) (C := R_LN) (T := T_LN) (N := 6) (v := .ref (ad (11))) hx hb hg in_LN hown hK hP (3) (by decide) rfl rfl 1 (by decide) (hg _ (List.mem_append_right _ (List.mem_append_right _ (List.mem_append_right _ (List.mem_append_right _ (List.mem_append_left _ (List.mem_of_getElem? (i := 6) rfl))))))) (fun _ h9 => h9) rfl d_LN_widenGaps_143 ?_
            refine z_iconst hx hb (z := 2) d_LN_widenGaps_146 ?_
            refine z_aald hx hb hK hP (11) 1 (by decide) (fun _ => rfl) rfl rfl (2) rfl (by decide) (by decide) d_LN_widenGaps_147 ?_
            refine lv_iload hx hb d_LN_widenGaps_148 (lv_at hl 1 rfl) ?_
            refine lv_dup2_11 hx hb d_LN_widenGaps_150 rfl rfl ?_
            refine z_iald hx hb hK hP (25) 0 (by decide) (fun _ => rfl) rfl (k) rfl (by omega) (by decide) d_LN_widenGaps_151 ?_
            refine lv_iload hx hb d_LN_widenGaps_152 (lv_at hl 0 rfl) ?_
            refine z_iadd hx hb d_LN_widenGaps_154 (v := (M_1 (25) (k) + (((rest).tdiv (((g : Nat) : Int))) + 1))) rfl ?_
            refine z_iast hx hb hK hP hD hS (25) 0 (by decide) (fun _ => rfl) rfl (v := (M_1 (25) (k) + (((rest).tdiv (((g : Nat) : Int))) + 1))) (k) rfl (by omega) (by decide) d_LN_widenGaps_155 (fun H locs hP hD hS => ?_)
            obtain ⟨M_3, eM_3⟩ : ∃ q_, q_ = mset M_1 (25) (k) ((M_1 (25) (k) + (((rest).tdiv (((g : Nat) : Int))) + 1))) := ⟨_, rfl⟩
            have hP : va_P D vwCl (pg_w ad cs rp M_3) H := by rw [eM_3]; exact hP
            have hD : va_D A (pg_w ad cs rp M_3) := by rw [eM_3]; exact hD
            refine lv_iload hx hb d_LN_widenGaps_156 (lv_at hl 2 rfl) ?_
            refine lv_iload hx hb d_LN_widenGaps_158 (lv_at hl 0 rfl) ?_
            refine z_iadd hx hb d_LN_widenGaps_160 (v := (mv + (((rest).tdiv (((g : Nat) : Int))) + 1))) rfl ?_
            refine lv_istore (lv' := [(8, .int (iI ((mv + (((rest).tdiv (((g : Nat) : Int))) + 1))))), (10, .int (iI ((((rest).tdiv (((g : Nat) : Int))) + 1)))), (9, .int (iI (((k : Nat) : Int)))), (7, .int (iI (rem))), (6, .int (iI (((g : Nat) : Int)))), (5, .int (iI (((fr : Nat) : Int)))), (4, .int (iI (((so : Nat) : Int)))), (0, .ref (ad (3))), (1, .int (iI (((a : Nat) : Int)))), (2, .int (iI (((b : Nat) : Int)))), (3, .int (iI (rest)))]) hx hb d_LN_widenGaps_161 hl (by decide) rfl (fun ls hl => ?_)
            refine z_iinc (v := (rem - 1)) (lv' := [(7, .int (iI ((rem - 1)))), (8, .int (iI ((mv + (((rest).tdiv (((g : Nat) : Int))) + 1))))), (10, .int (iI ((((rest).tdiv (((g : Nat) : Int))) + 1)))), (9, .int (iI (((k : Nat) : Int)))), (6, .int (iI (((g : Nat) : Int)))), (5, .int (iI (((fr : Nat) : Int)))), (4, .int (iI (((so : Nat) : Int)))), (0, .ref (ad (3))), (1, .int (iI (((a : Nat) : Int)))), (2, .int (iI (((b : Nat) : Int)))), (3, .int (iI (rest)))]) hx hb d_LN_widenGaps_163 hl (k := 3) rfl (by omega) (by decide) rfl (fun ls hl => ?_)
            refine z_iinc (v := ((k + 1 : Nat) : Int)) (lv' := [(9, .int (iI (((k + 1 : Nat) : Int)))), (7, .int (iI ((rem - 1)))), (8, .int (iI ((mv + (((rest).tdiv (((g : Nat) : Int))) + 1))))), (10, .int (iI ((((rest).tdiv (((g : Nat) : Int))) + 1)))), (6, .int (iI (((g : Nat) : Int)))), (5, .int (iI (((fr : Nat) : Int)))), (4, .int (iI (((so : Nat) : Int)))), (0, .ref (ad (3))), (1, .int (iI (((a : Nat) : Int)))), (2, .int (iI (((b : Nat) : Int)))), (3, .int (iI (rest)))]) hx hb d_LN_widenGaps_166 hl (k := 3) rfl (by omega) (by decide) rfl (fun ls hl => ?_)
            refine lv_goto (tgt := 84) hx hb d_LN_widenGaps_169 (by decide) ?_
            have hF : q_wg (M 7) so each f (k + 1) (rem - 1) (mv + (each + if 0 < rem then 1 else 0)) (mset (mset Mc 24 k (Mc 24 k + mv)) 25 k (Mc 25 k + (each + if 0 < rem then 1 else 0))) = MF := by rw [← he]; conv => rhs; unfold q_wg; rw [if_pos ⟨by omega, by rw [← g7, ← q7]; exact c_122⟩]
            rw [if_pos (by omega)] at hF
            have hMM : M_3 = mset (mset Mc 24 k (Mc 24 k + mv)) 25 k (Mc 25 k + (each + 1)) := by rw [eM_3, q25, heach, eM_1]
            rw [← hMM] at hF
            exact ih (k + 1) (rem - 1) (mv + (each + 1)) M_3 (by omega) (by omega) (by omega) (by omega) (by rw [hMM]; exact eqb_set (eqb_set hsm (by omega) (by omega)) (by omega) (by omega)) hF H locs ls hP hD hS (by rw [heach] at hl; exact lv_sub hl [0, 2, 1, 4, 5, 6, 7, 8, 9, 10] rfl)
set_option maxHeartbeats 4000000 in
set_option maxRecDepth 100000 in
/-- Lines.widenGaps -/
theorem c_widenGaps (l : Launch) {D : va_G} {ad : Nat → Nat} {cs : pg_C} {rp : Option Nat} {M : Nat → Nat → Int} (sz : Nat) (a b : Nat) (rest : Int) (hab : a ≤ b) (hb6 : b ≤ 600) (ht : wfT M) (hre : 0 ≤ rest ∧ rest ≤ 30000) : Met l y_LN_widenGaps ws_LN_widenGaps ({ frames := 2, cells := 0, slots := 0, locals := 44 } : Room) (va_Pc [.ref (ad (3)), .int (iI (((a : Nat) : Int))), .int (iI (((b : Nat) : Int))), .int (iI (rest))] (rw_B D vwCl (pg_tys cs) (pg_w ad cs rp M) sz)) (va_Qi (fun (r : Int32) (_ : Unit) => r = iI (q_wgV M a b rest)) (rw_E D vwCl (pg_tys cs) (pg_w ad cs rp M) (pg_w ad cs rp (q_wgM M a b rest)) sz) (va_A (pg_w ad cs rp M) sz)) 0 0 (va_A (pg_w ad cs rp M) sz) := by
  refine Met.ofW (cc := b_LN_widenGaps) (maxL := 11) (ret := (some .int)) (by decide) rfl ?_
  intro p e s m args below meth c s₁ B hml hv
  obtain ⟨rfl, hsz, hP, hK, hD0⟩ := hv
  have hx := B.exec
  have hb := B.bytes
  have hr := B.returns
  have hts := atoms_spec (ws := ws_LN_widenGaps) B.pre
  have hg : ∀ w ∈ gt, w.before _ s = true := fun w h => hts w (List.mem_cons_of_mem _ h)
  have hown : s.vm.findClass R_LN = some m.cls := findClass_of_methodNamed B.named
  have hlocks := B.notSynchronized
  subst hsz
  have hD := hD0.self (sz := s.heap.size)
  have hA : ∀ q : Nat, s.heap.size ≤ q → va_A (pg_w ad cs rp M) s.heap.size q := fun q h => Or.inr h
  have hS : va_S (va_A (pg_w ad cs rp M) s.heap.size) s.heap s.heap [] := va_S.rf
  have hl := lv_entry ([.ref (ad (3)), .int (iI (((a : Nat) : Int))), .int (iI (((b : Nat) : Int))), .int (iI (rest))]) (n := 11) (Nat.le_of_ble_eq_true rfl)
  rw [lg_entry_eq]
  generalize (lg_sl ([.ref (ad (3)), .int (iI (((a : Nat) : Int))), .int (iI (((b : Nat) : Int))), .int (iI (rest))]) ++ List.replicate (11 - (lg_sl ([.ref (ad (3)), .int (iI (((a : Nat) : Int))), .int (iI (((b : Nat) : Int))), .int (iI (rest))])).length) Slot.unset).toArray = ls at hl ⊢
  have hl : lv_has ls 11 [(0, .ref (ad (3))), (1, .int (iI (((a : Nat) : Int)))), (2, .int (iI (((b : Nat) : Int)))), (3, .int (iI (rest)))] := hl
  obtain ⟨so, eso⟩ : ∃ q_, q_ = p_solid (M 7) a b := ⟨_, rfl⟩
  have hso : so ≤ 600 := by have := p_solid_le (M 7) a b; omega
  obtain ⟨fr, efr⟩ : ∃ q_, q_ = p_blt (M 7) a b := ⟨_, rfl⟩
  have hfr : fr ≤ 600 := by have := p_blt_le (M 7) a b; omega
  have hfr2 : fr ≤ b := by have := p_blt_le (M 7) a b; omega
  obtain ⟨g, eg⟩ : ∃ q_, q_ = q_gc (M 7) (so - fr) fr 0 := ⟨_, rfl⟩
  have hg6 : g ≤ 600 := by have := q_gc_le (M 7) (so - fr) fr 0; omega
  refine lv_aload_n hx hb d_LN_widenGaps_0 rfl (lv_at hl 0 rfl) ?_
  refine z_get (ci := 3) (C := R_LN) (T := T_LN) (N := 6) (v := .ref (ad (1))) hx hb hg in_LN hown hK hP (3) (by decide) rfl rfl 3 (by decide) (hg _ (List.mem_append_right _ (List.mem_append_right _ (List.mem_append_right _ (List.mem_append_right _ (List.mem_append_left _ (List.mem_of_getElem? (i := 11) rfl))))))) (fun _ h9 => h9) rfl d_LN_widenGaps_1 ?_
  refine lv_iload_n hx hb d_LN_widenGaps_4 rfl (lv_at hl 1 rfl) ?_
  refine lv_iload_n hx hb d_LN_widenGaps_5 rfl (lv_at hl 2 rfl) ?_
  refine ro_V (As := [.int (iI (((a : Nat) : Int))), .int (iI (((b : Nat) : Int)))]) (rest := []) (z := ((so : Nat) : Int)) ⟨hx, hb, hml, hown, hg⟩ (eso ▸ c_solidBehind l a b (by omega) hb6 (zb_7 ht)) (cwV 2 hg (gt_V (List.mem_append_right _ (List.mem_append_right _ (List.mem_append_right _ (List.mem_append_right _ (List.mem_append_right _ (List.mem_append_left _ (List.mem_of_getElem? (i := 33) rfl))))))) (List.mem_append_right _ (List.mem_append_right _ (List.mem_append_right _ (List.mem_append_right _ (List.mem_append_right _ (List.mem_append_left _ (List.mem_of_getElem? (i := 34) rfl))))))) (List.mem_append_right _ (List.mem_append_right _ (List.mem_append_right _ (List.mem_append_right _ (List.mem_append_right _ (List.mem_append_left _ (List.mem_of_getElem? (i := 35) rfl))))))) (List.mem_append_right _ (List.mem_append_left _ (List.mem_of_getElem? (i := 3) rfl))) (List.mem_append_right _ (List.mem_append_right _ (List.mem_append_right _ (List.mem_append_right _ (List.mem_append_right _ (List.mem_append_left _ (List.mem_of_getElem? (i := 36) rfl)))))))) rfl rfl rfl (by decide +kernel) ⟨Nat.le_of_ble_eq_true rfl, Nat.le_of_ble_eq_true rfl⟩) hK hP (va_recv hK hP (ci := 1) (q0 := 1) rfl (wl_atE (by decide) rfl)) rfl hl.1 rfl (Nat.le_of_ble_eq_true rfl) d_LN_widenGaps_6 ⟨Nat.zero_le _, Nat.zero_le _⟩ ?_
  refine lv_istore (lv' := [(4, .int (iI (((so : Nat) : Int)))), (0, .ref (ad (3))), (1, .int (iI (((a : Nat) : Int)))), (2, .int (iI (((b : Nat) : Int)))), (3, .int (iI (rest)))]) hx hb d_LN_widenGaps_9 hl (by decide) rfl (fun ls hl => ?_)
  refine lv_aload_n hx hb d_LN_widenGaps_11 rfl (lv_at hl 1 rfl) ?_
  refine lv_iload_n hx hb d_LN_widenGaps_12 rfl (lv_at hl 2 rfl) ?_
  refine lv_iload_n hx hb d_LN_widenGaps_13 rfl (lv_at hl 3 rfl) ?_
  refine ro_V (As := [.int (iI (((a : Nat) : Int))), .int (iI (((b : Nat) : Int)))]) (rest := []) (z := ((fr : Nat) : Int)) ⟨hx, hb, hml, hown, hg⟩ (efr ▸ c_signBehindLastTab l a b (by omega) hb6 ht) (cwV 2 hg (gt_V (List.mem_append_right _ (List.mem_append_right _ (List.mem_append_right _ (List.mem_append_right _ (List.mem_append_right _ (List.mem_append_right _ (List.mem_append_left _ (List.mem_of_getElem? (i := 36) rfl)))))))) (List.mem_append_right _ (List.mem_append_right _ (List.mem_append_right _ (List.mem_append_right _ (List.mem_append_right _ (List.mem_append_right _ (List.mem_append_left _ (List.mem_of_getElem? (i := 37) rfl)))))))) (List.mem_append_left _ (List.mem_of_getElem? (i := 9) rfl)) (List.mem_append_right _ (List.mem_append_left _ (List.mem_of_getElem? (i := 6) rfl))) (List.mem_append_right _ (List.mem_append_right _ (List.mem_append_right _ (List.mem_append_right _ (List.mem_append_right _ (List.mem_append_right _ (List.mem_append_left _ (List.mem_of_getElem? (i := 38) rfl))))))))) rfl rfl rfl (by decide +kernel) ⟨Nat.le_of_ble_eq_true rfl, Nat.le_of_ble_eq_true rfl⟩) hK hP (va_recv hK hP (ci := 3) (q0 := 3) rfl (wl_atE (by decide) rfl)) rfl hl.1 rfl (Nat.le_of_ble_eq_true rfl) d_LN_widenGaps_14 ⟨Nat.zero_le _, Nat.zero_le _⟩ ?_
  refine lv_istore (lv' := [(5, .int (iI (((fr : Nat) : Int)))), (4, .int (iI (((so : Nat) : Int)))), (0, .ref (ad (3))), (1, .int (iI (((a : Nat) : Int)))), (2, .int (iI (((b : Nat) : Int)))), (3, .int (iI (rest)))]) hx hb d_LN_widenGaps_17 hl (by decide) rfl (fun ls hl => ?_)
  refine z_iconst hx hb (z := 0) d_LN_widenGaps_19 ?_
  refine lv_istore (lv' := [(6, .int (iI (0))), (5, .int (iI (((fr : Nat) : Int)))), (4, .int (iI (((so : Nat) : Int)))), (0, .ref (ad (3))), (1, .int (iI (((a : Nat) : Int)))), (2, .int (iI (((b : Nat) : Int)))), (3, .int (iI (rest)))]) hx hb d_LN_widenGaps_20 hl (by decide) rfl (fun ls hl => ?_)
  refine lv_iload hx hb d_LN_widenGaps_22 (lv_at hl 1 rfl) ?_
  refine lv_istore (lv' := [(7, .int (iI (((fr : Nat) : Int)))), (6, .int (iI (0))), (5, .int (iI (((fr : Nat) : Int)))), (4, .int (iI (((so : Nat) : Int)))), (0, .ref (ad (3))), (1, .int (iI (((a : Nat) : Int)))), (2, .int (iI (((b : Nat) : Int)))), (3, .int (iI (rest)))]) hx hb d_LN_widenGaps_24 hl (by decide) rfl (fun ls hl => ?_)
  refine lp_widenGaps1 hx hb hml hg hown hK hP a b so fr g rest hso ht (fun ls hl => ?_) (so - fr) fr 0 ls (by omega) hfr eg.symm (lv_sub hl [0, 1, 2, 3, 4, 5, 6, 7] rfl)
  refine lv_iload hx hb d_LN_widenGaps_63 (lv_at hl 0 rfl) ?_
  refine z_iconst hx hb (z := 1) d_LN_widenGaps_65 ?_
  refine z_icmp_ge hx hb (tgt := 71) d_LN_widenGaps_66 (by decide) ⟨by omega, by omega⟩ ⟨by decide, by decide⟩ (fun c_66 => ?_) (fun c_66 => ?_)
  · refine lv_iload_n hx hb d_LN_widenGaps_71 rfl (lv_at hl 6 rfl) ?_
    refine lv_iload hx hb d_LN_widenGaps_72 (lv_at hl 0 rfl) ?_
    refine z_irem hx hb d_LN_widenGaps_74 ⟨by omega, by omega⟩ ⟨by omega, by omega⟩ (by omega) (v := (rest - (rest).tdiv (((g : Nat) : Int)) * ((g : Nat) : Int))) rfl ?_
    refine lv_istore (lv' := [(7, .int (iI ((rest - (rest).tdiv (((g : Nat) : Int)) * ((g : Nat) : Int))))), (6, .int (iI (((g : Nat) : Int)))), (5, .int (iI (((fr : Nat) : Int)))), (4, .int (iI (((so : Nat) : Int)))), (0, .ref (ad (3))), (1, .int (iI (((a : Nat) : Int)))), (2, .int (iI (((b : Nat) : Int)))), (3, .int (iI (rest)))]) hx hb d_LN_widenGaps_75 hl (by decide) rfl (fun ls hl => ?_)
    refine z_iconst hx hb (z := 0) d_LN_widenGaps_77 ?_
    refine lv_istore (lv' := [(8, .int (iI (0))), (7, .int (iI ((rest - (rest).tdiv (((g : Nat) : Int)) * ((g : Nat) : Int))))), (6, .int (iI (((g : Nat) : Int)))), (5, .int (iI (((fr : Nat) : Int)))), (4, .int (iI (((so : Nat) : Int)))), (0, .ref (ad (3))), (1, .int (iI (((a : Nat) : Int)))), (2, .int (iI (((b : Nat) : Int)))), (3, .int (iI (rest)))]) hx hb d_LN_widenGaps_78 hl (by decide) rfl (fun ls hl => ?_)
    refine lv_iload hx hb d_LN_widenGaps_80 (lv_at hl 3 rfl) ?_
    refine lv_istore (lv' := [(9, .int (iI (((fr : Nat) : Int)))), (8, .int (iI (0))), (7, .int (iI ((rest - (rest).tdiv (((g : Nat) : Int)) * ((g : Nat) : Int))))), (6, .int (iI (((g : Nat) : Int)))), (5, .int (iI (((fr : Nat) : Int)))), (4, .int (iI (((so : Nat) : Int)))), (0, .ref (ad (3))), (1, .int (iI (((a : Nat) : Int)))), (2, .int (iI (((b : Nat) : Int)))), (3, .int (iI (rest)))]) hx hb d_LN_widenGaps_82 hl (by decide) rfl (fun ls hl => ?_)
    have hrm := q_rem (r := rest) (g := g) (by omega) (by omega)
    refine lp_widenGaps2 hx hb hml hg hown hK hA a b so fr g rest (rest.tdiv ((g : Nat) : Int)) hso hb6 (by omega) hg6 hre rfl ht (q_wgM M a b rest) (fun H locs ls hP hD hS hl => ?_) (b - fr) fr (rest - rest.tdiv ((g : Nat) : Int) * ((g : Nat) : Int)) 0 M (by omega) hfr (by omega) (by omega) eqb_rf (by unfold q_wgM; rw [← eso, ← efr, ← eg, if_neg (by omega)]) s.heap [] ls hP hD hS (lv_sub hl [0, 1, 2, 3, 4, 5, 6, 7, 8, 9] rfl)
    refine lv_iload_n hx hb d_LN_widenGaps_172 rfl (lv_at hl 0 rfl) ?_
    have hM : q_wgM M a b rest = q_wgM M a b rest := rfl
    have eW : pg_w ad cs rp (q_wgM M a b rest) = pg_w ad cs rp (q_wgM M a b rest) := by rw [hM]
    have hP := Eq.mp (congrArg (fun q => va_P D vwCl q _) eW) hP
    have hD := Eq.mp (congrArg (va_D _) eW) hD
    exact W.iret (v := iI (rest)) hx hb hr (fun t ht hW => ⟨⟨_, (), rfl, by unfold q_wgV; rw [← eso, ← efr, ← eg, if_neg (by omega)], by rw [ht]; exact hP, va_K.moved hW.alike hK, hD⟩, hS.F ht⟩) hS.2.2 d_LN_widenGaps_173
  · refine z_iconst hx hb (z := 0) d_LN_widenGaps_69 ?_
    have hM : M = q_wgM M a b rest := by unfold q_wgM; rw [← eso, ← efr, ← eg, if_pos (by omega)]
    have eW : pg_w ad cs rp (M) = pg_w ad cs rp (q_wgM M a b rest) := congrArg (pg_w ad cs rp) hM
    have hP := Eq.mp (congrArg (fun q => va_P D vwCl q _) eW) hP
    have hD := Eq.mp (congrArg (va_D _) eW) hD
    exact W.iret (v := iI (0)) hx hb hr (fun t ht hW => ⟨⟨_, (), rfl, by unfold q_wgV; rw [← eso, ← efr, ← eg, if_pos (by omega)], by rw [ht]; exact hP, va_K.moved hW.alike hK, hD⟩, hS.F ht⟩) hS.2.2 d_LN_widenGaps_70
end
section
/-! A line laid, as a function on the memory. My own. -/
def q_rest (M : Nat → Nat → Int) (i nl : Nat) : Int := max 0 (M 2 0 - M (30 + 4 * i) 1 - M 17 nl)
def q_al (M : Nat → Nat → Int) (i a b bp nl : Nat) : Nat → Nat → Int :=
  if M (30 + 4 * i) 5 = 1 then mset (mset (q_mv (q_rest M i nl) (b - a) a M) 21 nl (q_rest M i nl)) 22 nl 0
  else if M (30 + 4 * i) 5 = 2 then mset (mset (q_mv ((q_rest M i nl).tdiv 2) (b - a) a M) 21 nl ((q_rest M i nl).tdiv 2)) 22 nl 0
  else if M (30 + 4 * i) 5 = 3 ∧ b < bp ∧ ¬ p_endl (M 7) (b - 1) then mset (mset (q_mv 0 (b - a) a (q_wgM M a b (q_rest M i nl))) 21 nl 0) 22 nl (q_wgV M a b (q_rest M i nl))
  else mset (mset (q_mv 0 (b - a) a M) 21 nl 0) 22 nl 0
def q_end (M1 : Nat → Nat → Int) (a so : Nat) (x : Int) : Int := if a < so then M1 24 (so - 1) + M1 25 (so - 1) else x
def q_ps0 (M : Nat → Nat → Int) (i n a b : Nat) (x : Int) : Nat → Nat → Int := q_ps (M 7) (M 8) (p_tabs M i n) (M 3 2) (p_solid (M 7) a b) b (b - a) a x M
def q_ad1 (M : Nat → Nat → Int) (i n a b nl : Nat) (x : Int) : Nat → Nat → Int :=
  mset (mset (mset (mset (mset (mset (q_ps0 M i n a b x) 13 nl ((i : Nat) : Int)) 14 nl ((a : Nat) : Int)) 15 nl (((b : Nat) : Int) - ((a : Nat) : Int))) 16 nl x) 17 nl (q_end (q_ps0 M i n a b x) a (p_solid (M 7) a b) x)) 18 nl (p_hgt (M 9) b (b - a) a (M (30 + 4 * i) 10))
def q_ad (M : Nat → Nat → Int) (i n a b bp nl : Nat) (x : Int) : Nat → Nat → Int := mset (q_al (q_ad1 M i n a b nl x) i a b bp nl) 3 2 (((nl : Nat) : Int) + 1)
theorem q_ps_lt (kd wd : Nat → Int) (t : p_T) (ln : Int) (so b : Nat) : ∀ f k x M r j, j < k → q_ps kd wd t ln so b f k x M r j = M r j := by
  intro f
  induction f with
  | zero => intro k x M r j h; rfl
  | succ f ih =>
    intro k x M r j h
    unfold q_ps
    rw [ih _ _ _ _ _ (by omega)]
    unfold mset va_up
    repeat' (first | rfl | (exfalso; omega) | split)
    all_goals simp_all
    all_goals omega
theorem q_wideb {kd wd : Nat → Int} {t : p_T} {so b k : Nat} {x : Int} (hx : 0 ≤ x) (hw : ∀ j, 0 ≤ wd j ∧ wd j ≤ 4000) (h1 : 1 ≤ t.2.2.2 ∧ t.2.2.2 ≤ 30000) (hz : ∀ j, 0 ≤ t.2.1 j ∧ t.2.1 j ≤ 30000) : 0 ≤ q_wide kd wd t so b k x ∧ q_wide kd wd t so b k x ≤ 60000 := by
  unfold q_wide
  split
  · exact p_tabb hx (p_wbtb hw _ _ 0).1 h1 hz
  · have := p_widb (kd := kd) (wd := wd) (i := k) (la := decide (k + 1 = b)) (hw k)
    omega
theorem q_ps_bd {kd wd : Nat → Int} {t : p_T} {ln : Int} {so b : Nat} (hw : ∀ j, 0 ≤ wd j ∧ wd j ≤ 4000) (h1 : 1 ≤ t.2.2.2 ∧ t.2.2.2 ≤ 30000) (hz : ∀ j, 0 ≤ t.2.1 j ∧ t.2.1 j ≤ 30000) : ∀ f k x M j, 0 ≤ x → k ≤ j → j < k + f → 0 ≤ q_ps kd wd t ln so b f k x M 24 j ∧ 0 ≤ q_ps kd wd t ln so b f k x M 25 j ∧ q_ps kd wd t ln so b f k x M 24 j + q_ps kd wd t ln so b f k x M 25 j ≤ x + 60000 * ((f : Nat) : Int) := by
  intro f
  induction f with
  | zero => intro k x M j _ h2 h3; omega
  | succ f ih =>
    intro k x M j hx h2 h3
    have hq := q_wideb (kd := kd) (wd := wd) (t := t) (so := so) (b := b) (k := k) hx hw h1 hz
    unfold q_ps
    by_cases hj : j = k
    · subst hj
      rw [q_ps_lt _ _ _ _ _ _ _ _ _ _ _ _ (by omega), q_ps_lt _ _ _ _ _ _ _ _ _ _ _ _ (by omega)]
      rw [mset_same, mset_ne (by omega), mset_same]
      omega
    · have := ih (k + 1) (x + q_wide kd wd t so b k x) (mset (mset (mset M 23 k ln) 24 k x) 25 k (q_wide kd wd t so b k x)) j (by omega) (by omega) (by omega)
      omega
theorem q_endb {M : Nat → Nat → Int} {i n a b : Nat} {x : Int} (hp : wfP M i n) (ht : wfT M) (hx : 0 ≤ x ∧ x ≤ 10000) (hab : a ≤ b) (hb : b ≤ 600) : 0 ≤ q_end (q_ps0 M i n a b x) a (p_solid (M 7) a b) x ∧ q_end (q_ps0 M i n a b x) a (p_solid (M 7) a b) x ≤ 37000000 := by
  have hs := p_solid_le (M 7) a b
  unfold q_end
  split
  · have := q_ps_bd (kd := M 7) (wd := M 8) (t := p_tabs M i n) (ln := M 3 2) (so := p_solid (M 7) a b) (b := b) ht.2.1 ht.2.2.2.2.2 hp.2.2.2.1 (b - a) a x M (p_solid (M 7) a b - 1) hx.1 (by omega) (by omega)
    unfold q_ps0
    omega
  · omega
theorem q_restb {M : Nat → Nat → Int} {i nl : Nat} (ht : wfT M) (h1 : 0 ≤ M (30 + 4 * i) 1) (h2 : 0 ≤ M 17 nl) : 0 ≤ q_rest M i nl ∧ q_rest M i nl ≤ 30000 := by
  have := ht.2.2.2.1
  unfold q_rest
  omega
theorem q_al_eq (M : Nat → Nat → Int) (i a b bp nl : Nat) : eqb 13 25 (q_al M i a b bp nl) M := by
  have w1 : ∀ N : Nat → Nat → Int, eqb 23 25 N M → eqb 13 25 N M := fun N h j hj => h j (by omega)
  unfold q_al
  split
  · exact eqb_set (eqb_set (w1 _ (q_mv_eq _ _ _ _)) (by omega) (by omega)) (by omega) (by omega)
  · split
    · exact eqb_set (eqb_set (w1 _ (q_mv_eq _ _ _ _)) (by omega) (by omega)) (by omega) (by omega)
    · split
      · exact eqb_set (eqb_set (w1 _ (eqb_tr (q_mv_eq _ _ _ _) (q_wgM_eq _ _ _ _))) (by omega) (by omega)) (by omega) (by omega)
      · exact eqb_set (eqb_set (w1 _ (q_mv_eq _ _ _ _)) (by omega) (by omega)) (by omega) (by omega)
theorem q_ad1_eq (M : Nat → Nat → Int) (i n a b nl : Nat) (x : Int) : eqb 13 25 (q_ad1 M i n a b nl x) M := by
  have w1 : eqb 13 25 (q_ps0 M i n a b x) M := fun j hj => q_ps_eq _ _ _ _ _ _ _ _ _ _ j (by omega)
  exact eqb_set (eqb_set (eqb_set (eqb_set (eqb_set (eqb_set w1 (by omega) (by omega)) (by omega) (by omega)) (by omega) (by omega)) (by omega) (by omega)) (by omega) (by omega)) (by omega) (by omega)
end
section
set_option maxHeartbeats 4000000 in
set_option maxRecDepth 100000 in
theorem lp_align {p : Program} {l : Launch} {e : Env} {s : State} {m : MethodId} {args : Array Value} {below : List Frame} {meth : Method} {c : Code} {Q : State → Prop} {A : Nat → Prop} {H0 : Heap} {D : va_G} {ad : Nat → Nat} {cs : pg_C} {rp : Option Nat} (hx : p.tables.exec = Jvm.exec) (hb : c.code = b_LN_align) (hml : c.maxLocals = 9) (hg : ∀ w ∈ gt, w.before args s = true) (hown : s.vm.findClass R_LN = some m.cls) (hK : va_K D vwCl (pg_tys cs) s) (hA : ∀ q, H0.size ≤ q → A q) (i a b : Nat) (mv wi : Int) (hb6 : b ≤ 600) (MF : Nat → Nat → Int) (kk : ∀ (H : Heap) (locs : List Loc) (ls : Array Slot), va_P D vwCl (pg_w ad cs rp MF) H → va_D A (pg_w ad cs rp MF) → va_S A H0 H locs → lv_has ls 9 [(7, .int (iI wi)), (6, .int (iI mv)), (0, .ref (ad 3))] → W p l e ({ frames := 3, cells := 0, slots := 0, locals := 74 } : Room) s m args below meth c H locs 0 0 Q (F0 m 140 ls [])) : ∀ (f k : Nat) (Mc : Nat → Nat → Int), (k + f = b ∨ (f = 0 ∧ b ≤ k)) → k ≤ 600 → q_mv mv f k Mc = MF → ∀ (H : Heap) (locs : List Loc) (ls : Array Slot), va_P D vwCl (pg_w ad cs rp Mc) H → va_D A (pg_w ad cs rp Mc) → va_S A H0 H locs → lv_has ls 9 [(8, .int (iI (((k : Nat) : Int)))), (7, .int (iI (wi))), (6, .int (iI (mv))), (0, .ref (ad (3))), (1, .ref (ad (29 + 4 * i))), (2, .int (iI (((a : Nat) : Int)))), (3, .int (iI (((b : Nat) : Int))))] → W p l e ({ frames := 3, cells := 0, slots := 0, locals := 74 } : Room) s m args below meth c H locs 0 0 Q (F0 m 114 ls []) := by
  intro f
  induction f with
  | zero =>
    intro k Mc hkf hk6 he H locs ls hP hD hS hl
    refine lv_iload hx hb d_LN_align_114 (lv_at hl 0 rfl) ?_
    refine lv_iload_n hx hb d_LN_align_116 rfl (lv_at hl 6 rfl) ?_
    refine z_icmp_ge hx hb (tgt := 140) d_LN_align_117 (by decide) ⟨by omega, by omega⟩ ⟨by omega, by omega⟩ (fun c_117 => ?_) (fun c_117 => ?_)
    · have he : Mc = MF := he
      subst he
      exact kk H locs ls hP hD hS (lv_sub hl [1, 2, 3] rfl)
    · exact absurd c_117 (by omega)
  | succ f ih =>
    intro k Mc hkf hk6 he H locs ls hP hD hS hl
    refine lv_iload hx hb d_LN_align_114 (lv_at hl 0 rfl) ?_
    refine lv_iload_n hx hb d_LN_align_116 rfl (lv_at hl 6 rfl) ?_
    refine z_icmp_ge hx hb (tgt := 140) d_LN_align_117 (by decide) ⟨by omega, by omega⟩ ⟨by omega, by omega⟩ (fun c_117 => ?_) (fun c_117 => ?_)
    · exact absurd c_117 (by omega)
    · refine lv_aload_n hx hb d_LN_align_120 rfl (lv_at hl 3 rfl) ?_
      refine z_get (ci := 3) (C := R_LN) (T := T_LN) (N := 6) (v := .ref (ad (11))) hx hb hg in_LN hown hK hP (3) (by decide) rfl rfl 1 (by decide) (hg _ (List.mem_append_right _ (List.mem_append_right _ (List.mem_append_right _ (List.mem_append_right _ (List.mem_append_left _ (List.mem_of_getElem? (i := 6) rfl))))))) (fun _ h9 => h9) rfl d_LN_align_121 ?_
      refine z_iconst hx hb (z := 1) d_LN_align_124 ?_
      refine z_aald hx hb hK hP (11) 1 (by decide) (fun _ => rfl) rfl rfl (1) rfl (by decide) (by decide) d_LN_align_125 ?_
      refine lv_iload hx hb d_LN_align_126 (lv_at hl 0 rfl) ?_
      refine lv_dup2_11 hx hb d_LN_align_128 rfl rfl ?_
      refine z_iald hx hb hK hP (24) 0 (by decide) (fun _ => rfl) rfl (k) rfl (by omega) (by decide) d_LN_align_129 ?_
      refine lv_iload hx hb d_LN_align_130 (lv_at hl 2 rfl) ?_
      refine z_iadd hx hb d_LN_align_132 (v := (Mc (24) (k) + mv)) rfl ?_
      refine z_iast hx hb hK hP hD hS (24) 0 (by decide) (fun _ => rfl) rfl (v := (Mc (24) (k) + mv)) (k) rfl (by omega) (by decide) d_LN_align_133 (fun H locs hP hD hS => ?_)
      obtain ⟨M_1, eM_1⟩ : ∃ q_, q_ = mset Mc (24) (k) ((Mc (24) (k) + mv)) := ⟨_, rfl⟩
      have hP : va_P D vwCl (pg_w ad cs rp M_1) H := by rw [eM_1]; exact hP
      have hD : va_D A (pg_w ad cs rp M_1) := by rw [eM_1]; exact hD
      refine z_iinc (v := ((k + 1 : Nat) : Int)) (lv' := [(8, .int (iI (((k + 1 : Nat) : Int)))), (7, .int (iI (wi))), (6, .int (iI (mv))), (0, .ref (ad (3))), (1, .ref (ad (29 + 4 * i))), (2, .int (iI (((a : Nat) : Int)))), (3, .int (iI (((b : Nat) : Int))))]) hx hb d_LN_align_134 hl (k := 0) rfl (by omega) (by decide) rfl (fun ls hl => ?_)
      refine lv_goto (tgt := 114) hx hb d_LN_align_137 (by decide) ?_
      exact ih (k + 1) M_1 (by omega) (by omega) (by rw [← he, eM_1]; rfl) H locs ls hP hD hS (lv_sub hl [0, 1, 2, 3, 4, 5, 6] rfl)
set_option maxHeartbeats 4000000 in
set_option maxRecDepth 100000 in
/-- Lines.align -/
theorem c_align (l : Launch) {D : va_G} {ad : Nat → Nat} {cs : pg_C} {rp : Option Nat} {M : Nat → Nat → Int} (sz : Nat) (i a b bp nl : Nat) (hi : i < 30) (hab : a ≤ b) (hb6 : b ≤ 600) (hbp : bp ≤ 600) (hb1 : b < bp → 1 ≤ b) (ht : wfT M) (hbe : M (29 + 4 * i) 5 = ((bp : Nat) : Int)) (hn : M 3 2 = ((nl : Nat) : Int)) (hn6 : nl < 630) (h1 : 0 ≤ M (30 + 4 * i) 1 ∧ M (30 + 4 * i) 1 ≤ 5000) (h5 : 0 ≤ M (30 + 4 * i) 5 ∧ M (30 + 4 * i) 5 ≤ 3) (h17 : 0 ≤ M 17 nl ∧ M 17 nl ≤ 37000000) : Met l y_LN_align ws_LN_align ({ frames := 3, cells := 0, slots := 0, locals := 74 } : Room) (va_Pc [.ref (ad (3)), .ref (ad (29 + 4 * i)), .int (iI (((a : Nat) : Int))), .int (iI (((b : Nat) : Int)))] (rw_B D vwCl (pg_tys cs) (pg_w ad cs rp M) sz)) (va_Qv (fun _ : Unit => True) (rw_E D vwCl (pg_tys cs) (pg_w ad cs rp M) (pg_w ad cs rp (q_al M i a b bp nl)) sz) (va_A (pg_w ad cs rp M) sz)) 0 0 (va_A (pg_w ad cs rp M) sz) := by
  refine Met.ofW (cc := b_LN_align) (maxL := 9) (ret := none) (by decide) rfl ?_
  intro p e s m args below meth c s₁ B hml hv
  obtain ⟨rfl, hsz, hP, hK, hD0⟩ := hv
  have hx := B.exec
  have hb := B.bytes
  have hr := B.returns
  have hts := atoms_spec (ws := ws_LN_align) B.pre
  have hg : ∀ w ∈ gt, w.before _ s = true := fun w h => hts w (List.mem_cons_of_mem _ h)
  have hown : s.vm.findClass R_LN = some m.cls := findClass_of_methodNamed B.named
  have hlocks := B.notSynchronized
  subst hsz
  have hD := hD0.self (sz := s.heap.size)
  have hA : ∀ q : Nat, s.heap.size ≤ q → va_A (pg_w ad cs rp M) s.heap.size q := fun q h => Or.inr h
  have hS : va_S (va_A (pg_w ad cs rp M) s.heap.size) s.heap s.heap [] := va_S.rf
  have hl := lv_entry ([.ref (ad (3)), .ref (ad (29 + 4 * i)), .int (iI (((a : Nat) : Int))), .int (iI (((b : Nat) : Int)))]) (n := 9) (Nat.le_of_ble_eq_true rfl)
  rw [lg_entry_eq]
  generalize (lg_sl ([.ref (ad (3)), .ref (ad (29 + 4 * i)), .int (iI (((a : Nat) : Int))), .int (iI (((b : Nat) : Int)))]) ++ List.replicate (9 - (lg_sl ([.ref (ad (3)), .ref (ad (29 + 4 * i)), .int (iI (((a : Nat) : Int))), .int (iI (((b : Nat) : Int)))])).length) Slot.unset).toArray = ls at hl ⊢
  have hl : lv_has ls 9 [(0, .ref (ad (3))), (1, .ref (ad (29 + 4 * i))), (2, .int (iI (((a : Nat) : Int)))), (3, .int (iI (((b : Nat) : Int))))] := hl
  obtain ⟨rs, ers⟩ : ∃ q_, q_ = q_rest M i nl := ⟨_, rfl⟩
  have hrs := q_restb (i := i) (nl := nl) ht h1.1 h17.1
  rw [← ers] at hrs
  have hw20 := ht.2.2.2.1
  have hr2 : 0 ≤ rs.tdiv 2 := by rw [Int.tdiv_eq_ediv_of_nonneg (by omega)]; omega
  refine z_iconst hx hb (z := 0) d_LN_align_0 ?_
  refine lv_aload_n hx hb d_LN_align_1 rfl (lv_at hl 0 rfl) ?_
  refine z_get (ci := 3) (C := R_LN) (T := T_LN) (N := 6) (v := .ref (ad (2))) hx hb hg in_LN hown hK hP (3) (by decide) rfl rfl 4 (by decide) (hg _ (List.mem_append_right _ (List.mem_append_right _ (List.mem_append_right _ (List.mem_append_right _ (List.mem_append_left _ (List.mem_of_getElem? (i := 12) rfl))))))) (fun _ h9 => h9) rfl d_LN_align_2 ?_
  refine z_get (ci := 2) (C := R_SH) (T := T_SH) (N := 3) (v := .int (iI (M (2) 0))) hx hb hg in_SH hown hK hP (2) (by decide) rfl rfl 0 (by decide) (hg _ (List.mem_append_right _ (List.mem_append_right _ (List.mem_append_right _ (List.mem_append_left _ (List.mem_of_getElem? (i := 4) rfl)))))) (fun _ h9 => h9) rfl d_LN_align_5 ?_
  refine lv_aload_n hx hb d_LN_align_8 rfl (lv_at hl 1 rfl) ?_
  refine z_get (ci := 6) (C := R_PA) (T := T_PA) (N := 6) (v := .ref (ad (30 + 4 * i))) hx hb hg in_PA hown hK hP (29 + 4 * i) (by omega) (pg_par _ _ _ _ _) rfl 0 (by decide) (hg _ (List.mem_append_right _ (List.mem_append_left _ (List.mem_of_getElem? (i := 38) rfl)))) (fun _ h9 => h9) rfl d_LN_align_9 ?_
  refine z_iconst hx hb (z := 1) d_LN_align_12 ?_
  refine z_iald hx hb hK hP (30 + 4 * i) 0 (by omega) (fun r => pg_shp _ _ _ _ r) rfl (1) rfl (by decide) (by decide) d_LN_align_13 ?_
  refine z_isub hx hb d_LN_align_14 (v := (M (2) 0 - M (30 + 4 * i) (1))) rfl ?_
  refine lv_aload_n hx hb d_LN_align_15 rfl (lv_at hl 0 rfl) ?_
  refine z_get (ci := 3) (C := R_LN) (T := T_LN) (N := 6) (v := .ref (ad (10))) hx hb hg in_LN hown hK hP (3) (by decide) rfl rfl 0 (by decide) (hg _ (List.mem_append_right _ (List.mem_append_right _ (List.mem_append_right _ (List.mem_append_right _ (List.mem_append_left _ (List.mem_of_getElem? (i := 3) rfl))))))) (fun _ h9 => h9) rfl d_LN_align_16 ?_
  refine z_iconst hx hb (z := 4) d_LN_align_19 ?_
  refine z_aald hx hb hK hP (10) 1 (by decide) (fun _ => rfl) rfl rfl (4) rfl (by decide) (by decide) d_LN_align_20 ?_
  refine lv_aload_n hx hb d_LN_align_21 rfl (lv_at hl 0 rfl) ?_
  refine z_get (ci := 3) (C := R_LN) (T := T_LN) (N := 6) (v := .int (iI (M (3) 2))) hx hb hg in_LN hown hK hP (3) (by decide) rfl rfl 2 (by decide) (hg _ (List.mem_append_right _ (List.mem_append_right _ (List.mem_append_right _ (List.mem_append_right _ (List.mem_append_left _ (List.mem_of_getElem? (i := 8) rfl))))))) (fun _ h9 => h9) rfl d_LN_align_22 ?_
  refine z_iald hx hb hK hP (17) 0 (by decide) (fun _ => rfl) rfl (nl) hn (by omega) (by decide) d_LN_align_25 ?_
  refine z_isub hx hb d_LN_align_26 (v := ((M (2) 0 - M (30 + 4 * i) (1)) - M (17) (nl))) rfl ?_
  refine z_mmax hx hb (hml.trans hl.1.symm) hown (hg _ (List.mem_append_right _ (List.mem_append_right _ (List.mem_append_right _ (List.mem_append_right _ (List.mem_append_right _ (List.mem_append_left _ (List.mem_of_getElem? (i := 27) rfl)))))))) (hg _ (List.mem_append_right _ (List.mem_append_right _ (List.mem_append_right _ (List.mem_append_right _ (List.mem_append_right _ (List.mem_append_left _ (List.mem_of_getElem? (i := 28) rfl)))))))) (hg _ (List.mem_append_right _ (List.mem_append_left _ (List.mem_of_getElem? (i := 17) rfl)))) (hg _ (List.mem_append_right _ (List.mem_append_right _ (List.mem_append_right _ (List.mem_append_right _ (List.mem_append_right _ (List.mem_append_left _ (List.mem_of_getElem? (i := 29) rfl)))))))) (Nat.le_of_ble_eq_true rfl) (Nat.le_of_ble_eq_true rfl) (Nat.zero_le _) (Nat.zero_le _) ⟨by decide, by decide⟩ ⟨by omega, by omega⟩ d_LN_align_27 (v := rs) (by rw [ers]; rfl) ?_
  refine lv_istore (lv' := [(4, .int (iI (rs))), (0, .ref (ad (3))), (1, .ref (ad (29 + 4 * i))), (2, .int (iI (((a : Nat) : Int)))), (3, .int (iI (((b : Nat) : Int))))]) hx hb d_LN_align_30 hl (by decide) rfl (fun ls hl => ?_)
  refine lv_aload_n hx hb d_LN_align_32 rfl (lv_at hl 2 rfl) ?_
  refine z_get (ci := 6) (C := R_PA) (T := T_PA) (N := 6) (v := .ref (ad (30 + 4 * i))) hx hb hg in_PA hown hK hP (29 + 4 * i) (by omega) (pg_par _ _ _ _ _) rfl 0 (by decide) (hg _ (List.mem_append_right _ (List.mem_append_left _ (List.mem_of_getElem? (i := 38) rfl)))) (fun _ h9 => h9) rfl d_LN_align_33 ?_
  refine z_iconst hx hb (z := 5) d_LN_align_36 ?_
  refine z_iald hx hb hK hP (30 + 4 * i) 0 (by omega) (fun r => pg_shp _ _ _ _ r) rfl (5) rfl (by decide) (by decide) d_LN_align_37 ?_
  refine lv_istore (lv' := [(5, .int (iI (M (30 + 4 * i) (5)))), (4, .int (iI (rs))), (0, .ref (ad (3))), (1, .ref (ad (29 + 4 * i))), (2, .int (iI (((a : Nat) : Int)))), (3, .int (iI (((b : Nat) : Int))))]) hx hb d_LN_align_38 hl (by decide) rfl (fun ls hl => ?_)
  refine z_iconst hx hb (z := 0) d_LN_align_40 ?_
  refine lv_istore (lv' := [(6, .int (iI (0))), (5, .int (iI (M (30 + 4 * i) (5)))), (4, .int (iI (rs))), (0, .ref (ad (3))), (1, .ref (ad (29 + 4 * i))), (2, .int (iI (((a : Nat) : Int)))), (3, .int (iI (((b : Nat) : Int))))]) hx hb d_LN_align_41 hl (by decide) rfl (fun ls hl => ?_)
  refine z_iconst hx hb (z := 0) d_LN_align_43 ?_
  refine lv_istore (lv' := [(7, .int (iI (0))), (6, .int (iI (0))), (5, .int (iI (M (30 + 4 * i) (5)))), (4, .int (iI (rs))), (0, .ref (ad (3))), (1, .ref (ad (29 + 4 * i))), (2, .int (iI (((a : Nat) : Int)))), (3, .int (iI (((b : Nat) : Int))))]) hx hb d_LN_align_44 hl (by decide) rfl (fun ls hl => ?_)
  refine lv_iload hx hb d_LN_align_46 (lv_at hl 2 rfl) ?_
  refine z_iconst hx hb (z := 1) d_LN_align_48 ?_
  refine z_icmp_ne hx hb (tgt := 59) d_LN_align_49 (by decide) ⟨by omega, by omega⟩ ⟨by decide, by decide⟩ (fun c_49 => ?_) (fun c_49 => ?_)
  · refine lv_iload hx hb d_LN_align_59 (lv_at hl 2 rfl) ?_
    refine z_iconst hx hb (z := 2) d_LN_align_61 ?_
    refine z_icmp_ne hx hb (tgt := 74) d_LN_align_62 (by decide) ⟨by omega, by omega⟩ ⟨by decide, by decide⟩ (fun c_62 => ?_) (fun c_62 => ?_)
    · refine lv_iload hx hb d_LN_align_74 (lv_at hl 2 rfl) ?_
      refine z_iconst hx hb (z := 3) d_LN_align_76 ?_
      refine z_icmp_ne hx hb (tgt := 111) d_LN_align_77 (by decide) ⟨by omega, by omega⟩ ⟨by decide, by decide⟩ (fun c_77 => ?_) (fun c_77 => ?_)
      · refine lv_iload_n hx hb d_LN_align_111 rfl (lv_at hl 6 rfl) ?_
        refine lv_istore (lv' := [(8, .int (iI (((a : Nat) : Int)))), (7, .int (iI (0))), (6, .int (iI (0))), (5, .int (iI (M (30 + 4 * i) (5)))), (4, .int (iI (rs))), (0, .ref (ad (3))), (1, .ref (ad (29 + 4 * i))), (2, .int (iI (((a : Nat) : Int)))), (3, .int (iI (((b : Nat) : Int))))]) hx hb d_LN_align_112 hl (by decide) rfl (fun ls hl => ?_)
        obtain ⟨MF_1, eMF_1⟩ : ∃ q_, q_ = q_mv (0) (b - a) a M := ⟨_, rfl⟩
        refine lp_align hx hb hml hg hown hK hA i a b (0) (0) hb6 MF_1 (fun H locs ls hP hD hS hl => ?_) (b - a) a M (by omega) (by omega) eMF_1.symm s.heap [] ls hP hD hS (lv_sub hl [0, 1, 2, 5, 6, 7, 8] rfl)
        have hn3 : MF_1 3 2 = ((nl : Nat) : Int) := by rw [eMF_1, q_mv_eq _ _ _ _ 3 (by omega)]; exact hn
        refine lv_aload_n hx hb d_LN_align_140 rfl (lv_at hl 2 rfl) ?_
        refine z_get (ci := 3) (C := R_LN) (T := T_LN) (N := 6) (v := .ref (ad (10))) hx hb hg in_LN hown hK hP (3) (by decide) rfl rfl 0 (by decide) (hg _ (List.mem_append_right _ (List.mem_append_right _ (List.mem_append_right _ (List.mem_append_right _ (List.mem_append_left _ (List.mem_of_getElem? (i := 3) rfl))))))) (fun _ h9 => h9) rfl d_LN_align_141 ?_
        refine z_bipush hx hb (z := 8) d_LN_align_144 (by decide) ?_
        refine z_aald hx hb hK hP (10) 1 (by decide) (fun _ => rfl) rfl rfl (8) rfl (by decide) (by decide) d_LN_align_146 ?_
        refine lv_aload_n hx hb d_LN_align_147 rfl (lv_at hl 2 rfl) ?_
        refine z_get (ci := 3) (C := R_LN) (T := T_LN) (N := 6) (v := .int (iI (MF_1 (3) 2))) hx hb hg in_LN hown hK hP (3) (by decide) rfl rfl 2 (by decide) (hg _ (List.mem_append_right _ (List.mem_append_right _ (List.mem_append_right _ (List.mem_append_right _ (List.mem_append_left _ (List.mem_of_getElem? (i := 8) rfl))))))) (fun _ h9 => h9) rfl d_LN_align_148 ?_
        refine lv_iload hx hb d_LN_align_151 (lv_at hl 1 rfl) ?_
        refine z_iast hx hb hK hP hD hS (21) 0 (by decide) (fun _ => rfl) rfl (v := 0) (nl) hn3 (by omega) (by decide) d_LN_align_153 (fun H locs hP hD hS => ?_)
        obtain ⟨M_2, eM_2⟩ : ∃ q_, q_ = mset MF_1 (21) (nl) (0) := ⟨_, rfl⟩
        have hP : va_P D vwCl (pg_w ad cs rp M_2) H := by rw [eM_2]; exact hP
        have hD : va_D (va_A (pg_w ad cs rp M) s.heap.size) (pg_w ad cs rp M_2) := by rw [eM_2]; exact hD
        have hn4 : M_2 3 2 = ((nl : Nat) : Int) := by rw [eM_2, mset_ne (by omega)]; exact hn3
        refine lv_aload_n hx hb d_LN_align_154 rfl (lv_at hl 2 rfl) ?_
        refine z_get (ci := 3) (C := R_LN) (T := T_LN) (N := 6) (v := .ref (ad (10))) hx hb hg in_LN hown hK hP (3) (by decide) rfl rfl 0 (by decide) (hg _ (List.mem_append_right _ (List.mem_append_right _ (List.mem_append_right _ (List.mem_append_right _ (List.mem_append_left _ (List.mem_of_getElem? (i := 3) rfl))))))) (fun _ h9 => h9) rfl d_LN_align_155 ?_
        refine z_bipush hx hb (z := 9) d_LN_align_158 (by decide) ?_
        refine z_aald hx hb hK hP (10) 1 (by decide) (fun _ => rfl) rfl rfl (9) rfl (by decide) (by decide) d_LN_align_160 ?_
        refine lv_aload_n hx hb d_LN_align_161 rfl (lv_at hl 2 rfl) ?_
        refine z_get (ci := 3) (C := R_LN) (T := T_LN) (N := 6) (v := .int (iI (M_2 (3) 2))) hx hb hg in_LN hown hK hP (3) (by decide) rfl rfl 2 (by decide) (hg _ (List.mem_append_right _ (List.mem_append_right _ (List.mem_append_right _ (List.mem_append_right _ (List.mem_append_left _ (List.mem_of_getElem? (i := 8) rfl))))))) (fun _ h9 => h9) rfl d_LN_align_162 ?_
        refine lv_iload hx hb d_LN_align_165 (lv_at hl 0 rfl) ?_
        refine z_iast hx hb hK hP hD hS (22) 0 (by decide) (fun _ => rfl) rfl (v := 0) (nl) hn4 (by omega) (by decide) d_LN_align_167 (fun H locs hP hD hS => ?_)
        obtain ⟨M_3, eM_3⟩ : ∃ q_, q_ = mset M_2 (22) (nl) (0) := ⟨_, rfl⟩
        have hP : va_P D vwCl (pg_w ad cs rp M_3) H := by rw [eM_3]; exact hP
        have hD : va_D (va_A (pg_w ad cs rp M) s.heap.size) (pg_w ad cs rp M_3) := by rw [eM_3]; exact hD
        have hM : M_3 = q_al M i a b bp nl := by rw [eM_3, eM_2, eMF_1]; unfold q_al; rw [← ers]; rw [if_neg c_49, if_neg c_62, if_neg (fun h => c_77 h.1)]
        have eW : pg_w ad cs rp (M_3) = pg_w ad cs rp (q_al M i a b bp nl) := by rw [hM]
        have hP := Eq.mp (congrArg (fun q => va_P D vwCl q _) eW) hP
        have hD := Eq.mp (congrArg (va_D _) eW) hD
        exact W.vret hx hb hr (fun t ht hW => ⟨⟨(), rfl, trivial, by rw [ht]; exact hP, va_K.moved hW.alike hK, hD⟩, hS.F ht⟩) hS.2.2 d_LN_align_168
      · refine lv_iload_n hx hb d_LN_align_80 rfl (lv_at hl 7 rfl) ?_
        refine lv_aload_n hx hb d_LN_align_81 rfl (lv_at hl 5 rfl) ?_
        refine z_get (ci := 6) (C := R_PA) (T := T_PA) (N := 6) (v := .int (iI (M (29 + 4 * i) 5))) hx hb hg in_PA hown hK hP (29 + 4 * i) (by omega) (pg_par _ _ _ _ _) rfl 5 (by decide) (hg _ (List.mem_append_right _ (List.mem_append_right _ (List.mem_append_left _ (List.mem_of_getElem? (i := 8) rfl))))) (fun _ h9 => h9) rfl d_LN_align_82 ?_
        refine z_icmp_ge hx hb (tgt := 111) d_LN_align_85 (by decide) ⟨by omega, by omega⟩ ⟨by omega, by omega⟩ (fun c_85 => ?_) (fun c_85 => ?_)
        · refine lv_iload_n hx hb d_LN_align_111 rfl (lv_at hl 6 rfl) ?_
          refine lv_istore (lv' := [(8, .int (iI (((a : Nat) : Int)))), (7, .int (iI (0))), (6, .int (iI (0))), (5, .int (iI (M (30 + 4 * i) (5)))), (4, .int (iI (rs))), (0, .ref (ad (3))), (1, .ref (ad (29 + 4 * i))), (2, .int (iI (((a : Nat) : Int)))), (3, .int (iI (((b : Nat) : Int))))]) hx hb d_LN_align_112 hl (by decide) rfl (fun ls hl => ?_)
          obtain ⟨MF_4, eMF_4⟩ : ∃ q_, q_ = q_mv (0) (b - a) a M := ⟨_, rfl⟩
          refine lp_align hx hb hml hg hown hK hA i a b (0) (0) hb6 MF_4 (fun H locs ls hP hD hS hl => ?_) (b - a) a M (by omega) (by omega) eMF_4.symm s.heap [] ls hP hD hS (lv_sub hl [0, 1, 2, 5, 6, 7, 8] rfl)
          have hn3 : MF_4 3 2 = ((nl : Nat) : Int) := by rw [eMF_4, q_mv_eq _ _ _ _ 3 (by omega)]; exact hn
          refine lv_aload_n hx hb d_LN_align_140 rfl (lv_at hl 2 rfl) ?_
          refine z_get (ci := 3) (C := R_LN) (T := T_LN) (N := 6) (v := .ref (ad (10))) hx hb hg in_LN hown hK hP (3) (by decide) rfl rfl 0 (by decide) (hg _ (List.mem_append_right _ (List.mem_append_right _ (List.mem_append_right _ (List.mem_append_right _ (List.mem_append_left _ (List.mem_of_getElem? (i := 3) rfl))))))) (fun _ h9 => h9) rfl d_LN_align_141 ?_
          refine z_bipush hx hb (z := 8) d_LN_align_144 (by decide) ?_
          refine z_aald hx hb hK hP (10) 1 (by decide) (fun _ => rfl) rfl rfl (8) rfl (by decide) (by decide) d_LN_align_146 ?_
          refine lv_aload_n hx hb d_LN_align_147 rfl (lv_at hl 2 rfl) ?_
          refine z_get (ci := 3) (C := R_LN) (T := T_LN) (N := 6) (v := .int (iI (MF_4 (3) 2))) hx hb hg in_LN hown hK hP (3) (by decide) rfl rfl 2 (by decide) (hg _ (List.mem_append_right _ (List.mem_append_right _ (List.mem_append_right _ (List.mem_append_right _ (List.mem_append_left _ (List.mem_of_getElem? (i := 8) rfl))))))) (fun _ h9 => h9) rfl d_LN_align_148 ?_
          refine lv_iload hx hb d_LN_align_151 (lv_at hl 1 rfl) ?_
          refine z_iast hx hb hK hP hD hS (21) 0 (by decide) (fun _ => rfl) rfl (v := 0) (nl) hn3 (by omega) (by decide) d_LN_align_153 (fun H locs hP hD hS => ?_)
          obtain ⟨M_5, eM_5⟩ : ∃ q_, q_ = mset MF_4 (21) (nl) (0) := ⟨_, rfl⟩
          have hP : va_P D vwCl (pg_w ad cs rp M_5) H := by rw [eM_5]; exact hP
          have hD : va_D (va_A (pg_w ad cs rp M) s.heap.size) (pg_w ad cs rp M_5) := by rw [eM_5]; exact hD
          have hn4 : M_5 3 2 = ((nl : Nat) : Int) := by rw [eM_5, mset_ne (by omega)]; exact hn3
          refine lv_aload_n hx hb d_LN_align_154 rfl (lv_at hl 2 rfl) ?_
          refine z_get (ci := 3) (C := R_LN) (T := T_LN) (N := 6) (v := .ref (ad (10))) hx hb hg in_LN hown hK hP (3) (by decide) rfl rfl 0 (by decide) (hg _ (List.mem_append_right _ (List.mem_append_right _ (List.mem_append_right _ (List.mem_append_right _ (List.mem_append_left _ (List.mem_of_getElem? (i := 3) rfl))))))) (fun _ h9 => h9) rfl d_LN_align_155 ?_
          refine z_bipush hx hb (z := 9) d_LN_align_158 (by decide) ?_
          refine z_aald hx hb hK hP (10) 1 (by decide) (fun _ => rfl) rfl rfl (9) rfl (by decide) (by decide) d_LN_align_160 ?_
          refine lv_aload_n hx hb d_LN_align_161 rfl (lv_at hl 2 rfl) ?_
          refine z_get (ci := 3) (C := R_LN) (T := T_LN) (N := 6) (v := .int (iI (M_5 (3) 2))) hx hb hg in_LN hown hK hP (3) (by decide) rfl rfl 2 (by decide) (hg _ (List.mem_append_right _ (List.mem_append_right _ (List.mem_append_right _ (List.mem_append_right _ (List.mem_append_left _ (List.mem_of_getElem? (i := 8) rfl))))))) (fun _ h9 => h9) rfl d_LN_align_162 ?_
          refine lv_iload hx hb d_LN_align_165 (lv_at hl 0 rfl) ?_
          refine z_iast hx hb hK hP hD hS (22) 0 (by decide) (fun _ => rfl) rfl (v := 0) (nl) hn4 (by omega) (by decide) d_LN_align_167 (fun H locs hP hD hS => ?_)
          obtain ⟨M_6, eM_6⟩ : ∃ q_, q_ = mset M_5 (22) (nl) (0) := ⟨_, rfl⟩
          have hP : va_P D vwCl (pg_w ad cs rp M_6) H := by rw [eM_6]; exact hP
          have hD : va_D (va_A (pg_w ad cs rp M) s.heap.size) (pg_w ad cs rp M_6) := by rw [eM_6]; exact hD
          have hM : M_6 = q_al M i a b bp nl := by rw [eM_6, eM_5, eMF_4]; unfold q_al; rw [← ers]; rw [if_neg c_49, if_neg c_62, if_neg (fun h => by omega)]
          have eW : pg_w ad cs rp (M_6) = pg_w ad cs rp (q_al M i a b bp nl) := by rw [hM]
          have hP := Eq.mp (congrArg (fun q => va_P D vwCl q _) eW) hP
          have hD := Eq.mp (congrArg (va_D _) eW) hD
          exact W.vret hx hb hr (fun t ht hW => ⟨⟨(), rfl, trivial, by rw [ht]; exact hP, va_K.moved hW.alike hK, hD⟩, hS.F ht⟩) hS.2.2 d_LN_align_168
        · refine lv_aload_n hx hb d_LN_align_88 rfl (lv_at hl 4 rfl) ?_
          refine z_get (ci := 3) (C := R_LN) (T := T_LN) (N := 6) (v := .ref (ad (1))) hx hb hg in_LN hown hK hP (3) (by decide) rfl rfl 3 (by decide) (hg _ (List.mem_append_right _ (List.mem_append_right _ (List.mem_append_right _ (List.mem_append_right _ (List.mem_append_left _ (List.mem_of_getElem? (i := 11) rfl))))))) (fun _ h9 => h9) rfl d_LN_align_89 ?_
          refine lv_iload_n hx hb d_LN_align_92 rfl (lv_at hl 7 rfl) ?_
          refine z_iconst hx hb (z := 1) d_LN_align_93 ?_
          refine z_isub hx hb d_LN_align_94 (v := ((b - 1 : Nat) : Int)) (by omega) ?_
          refine ro_V (As := [.int (iI (((b - 1 : Nat) : Int)))]) (rest := []) (z := bz (p_endl (M 7) (b - 1)) inferInstance) ⟨hx, hb, hml, hown, hg⟩ (c_endsLine l (b - 1) (by omega) (zb_7 ht)) (cwV 1 hg (gt_V (List.mem_append_right _ (List.mem_append_right _ (List.mem_append_right _ (List.mem_append_right _ (List.mem_append_right _ (List.mem_append_right _ (List.mem_append_left _ (List.mem_of_getElem? (i := 32) rfl)))))))) (List.mem_append_right _ (List.mem_append_right _ (List.mem_append_right _ (List.mem_append_right _ (List.mem_append_right _ (List.mem_append_left _ (List.mem_of_getElem? (i := 38) rfl))))))) (List.mem_append_right _ (List.mem_append_right _ (List.mem_append_right _ (List.mem_append_right _ (List.mem_append_right _ (List.mem_append_left _ (List.mem_of_getElem? (i := 39) rfl))))))) (List.mem_append_right _ (List.mem_append_left _ (List.mem_of_getElem? (i := 3) rfl))) (List.mem_append_right _ (List.mem_append_right _ (List.mem_append_right _ (List.mem_append_right _ (List.mem_append_right _ (List.mem_append_right _ (List.mem_append_left _ (List.mem_of_getElem? (i := 0) rfl))))))))) rfl rfl rfl (by decide +kernel) ⟨Nat.le_of_ble_eq_true rfl, Nat.le_of_ble_eq_true rfl⟩) hK hP (va_recv hK hP (ci := 1) (q0 := 1) rfl (wl_atE (by decide) rfl)) rfl hl.1 rfl (Nat.le_of_ble_eq_true rfl) d_LN_align_95 ⟨Nat.zero_le _, Nat.zero_le _⟩ ?_
          refine z_ifb_ne hx hb (tgt := 111) d_LN_align_98 (by decide) (fun c_98 => ?_) (fun c_98 => ?_)
          · refine lv_iload_n hx hb d_LN_align_111 rfl (lv_at hl 6 rfl) ?_
            refine lv_istore (lv' := [(8, .int (iI (((a : Nat) : Int)))), (7, .int (iI (0))), (6, .int (iI (0))), (5, .int (iI (M (30 + 4 * i) (5)))), (4, .int (iI (rs))), (0, .ref (ad (3))), (1, .ref (ad (29 + 4 * i))), (2, .int (iI (((a : Nat) : Int)))), (3, .int (iI (((b : Nat) : Int))))]) hx hb d_LN_align_112 hl (by decide) rfl (fun ls hl => ?_)
            obtain ⟨MF_7, eMF_7⟩ : ∃ q_, q_ = q_mv (0) (b - a) a M := ⟨_, rfl⟩
            refine lp_align hx hb hml hg hown hK hA i a b (0) (0) hb6 MF_7 (fun H locs ls hP hD hS hl => ?_) (b - a) a M (by omega) (by omega) eMF_7.symm s.heap [] ls hP hD hS (lv_sub hl [0, 1, 2, 5, 6, 7, 8] rfl)
            have hn3 : MF_7 3 2 = ((nl : Nat) : Int) := by rw [eMF_7, q_mv_eq _ _ _ _ 3 (by omega)]; exact hn
            refine lv_aload_n hx hb d_LN_align_140 rfl (lv_at hl 2 rfl) ?_
            refine z_get (ci := 3) (C := R_LN) (T := T_LN) (N := 6) (v := .ref (ad (10))) hx hb hg in_LN hown hK hP (3) (by decide) rfl rfl 0 (by decide) (hg _ (List.mem_append_right _ (List.mem_append_right _ (List.mem_append_right _ (List.mem_append_right _ (List.mem_append_left _ (List.mem_of_getElem? (i := 3) rfl))))))) (fun _ h9 => h9) rfl d_LN_align_141 ?_
            refine z_bipush hx hb (z := 8) d_LN_align_144 (by decide) ?_
            refine z_aald hx hb hK hP (10) 1 (by decide) (fun _ => rfl) rfl rfl (8) rfl (by decide) (by decide) d_LN_align_146 ?_
            refine lv_aload_n hx hb d_LN_align_147 rfl (lv_at hl 2 rfl) ?_
            refine z_get (ci := 3) (C := R_LN) (T := T_LN) (N := 6) (v := .int (iI (MF_7 (3) 2))) hx hb hg in_LN hown hK hP (3) (by decide) rfl rfl 2 (by decide) (hg _ (List.mem_append_right _ (List.mem_append_right _ (List.mem_append_right _ (List.mem_append_right _ (List.mem_append_left _ (List.mem_of_getElem? (i := 8) rfl))))))) (fun _ h9 => h9) rfl d_LN_align_148 ?_
            refine lv_iload hx hb d_LN_align_151 (lv_at hl 1 rfl) ?_
            refine z_iast hx hb hK hP hD hS (21) 0 (by decide) (fun _ => rfl) rfl (v := 0) (nl) hn3 (by omega) (by decide) d_LN_align_153 (fun H locs hP hD hS => ?_)
            obtain ⟨M_8, eM_8⟩ : ∃ q_, q_ = mset MF_7 (21) (nl) (0) := ⟨_, rfl⟩
            have hP : va_P D vwCl (pg_w ad cs rp M_8) H := by rw [eM_8]; exact hP
            have hD : va_D (va_A (pg_w ad cs rp M) s.heap.size) (pg_w ad cs rp M_8) := by rw [eM_8]; exact hD
            have hn4 : M_8 3 2 = ((nl : Nat) : Int) := by rw [eM_8, mset_ne (by omega)]; exact hn3
            refine lv_aload_n hx hb d_LN_align_154 rfl (lv_at hl 2 rfl) ?_
            refine z_get (ci := 3) (C := R_LN) (T := T_LN) (N := 6) (v := .ref (ad (10))) hx hb hg in_LN hown hK hP (3) (by decide) rfl rfl 0 (by decide) (hg _ (List.mem_append_right _ (List.mem_append_right _ (List.mem_append_right _ (List.mem_append_right _ (List.mem_append_left _ (List.mem_of_getElem? (i := 3) rfl))))))) (fun _ h9 => h9) rfl d_LN_align_155 ?_
            refine z_bipush hx hb (z := 9) d_LN_align_158 (by decide) ?_
            refine z_aald hx hb hK hP (10) 1 (by decide) (fun _ => rfl) rfl rfl (9) rfl (by decide) (by decide) d_LN_align_160 ?_
            refine lv_aload_n hx hb d_LN_align_161 rfl (lv_at hl 2 rfl) ?_
            refine z_get (ci := 3) (C := R_LN) (T := T_LN) (N := 6) (v := .int (iI (M_8 (3) 2))) hx hb hg in_LN hown hK hP (3) (by decide) rfl rfl 2 (by decide) (hg _ (List.mem_append_right _ (List.mem_append_right _ (List.mem_append_right _ (List.mem_append_right _ (List.mem_append_left _ (List.mem_of_getElem? (i := 8) rfl))))))) (fun _ h9 => h9) rfl d_LN_align_162 ?_
            refine lv_iload hx hb d_LN_align_165 (lv_at hl 0 rfl) ?_
            refine z_iast hx hb hK hP hD hS (22) 0 (by decide) (fun _ => rfl) rfl (v := 0) (nl) hn4 (by omega) (by decide) d_LN_align_167 (fun H locs hP hD hS => ?_)
            obtain ⟨M_9, eM_9⟩ : ∃ q_, q_ = mset M_8 (22) (nl) (0) := ⟨_, rfl⟩
            have hP : va_P D vwCl (pg_w ad cs rp M_9) H := by rw [eM_9]; exact hP
            have hD : va_D (va_A (pg_w ad cs rp M) s.heap.size) (pg_w ad cs rp M_9) := by rw [eM_9]; exact hD
            have hM : M_9 = q_al M i a b bp nl := by rw [eM_9, eM_8, eMF_7]; unfold q_al; rw [← ers]; rw [if_neg c_49, if_neg c_62, if_neg (fun h => h.2.2 c_98)]
            have eW : pg_w ad cs rp (M_9) = pg_w ad cs rp (q_al M i a b bp nl) := by rw [hM]
            have hP := Eq.mp (congrArg (fun q => va_P D vwCl q _) eW) hP
            have hD := Eq.mp (congrArg (va_D _) eW) hD
            exact W.vret hx hb hr (fun t ht hW => ⟨⟨(), rfl, trivial, by rw [ht]; exact hP, va_K.moved hW.alike hK, hD⟩, hS.F ht⟩) hS.2.2 d_LN_align_168
          · refine lv_aload_n hx hb d_LN_align_101 rfl (lv_at hl 4 rfl) ?_
            refine lv_iload_n hx hb d_LN_align_102 rfl (lv_at hl 6 rfl) ?_
            refine lv_iload_n hx hb d_LN_align_103 rfl (lv_at hl 7 rfl) ?_
            refine lv_iload hx hb d_LN_align_104 (lv_at hl 3 rfl) ?_
            refine rw_Vi (As := [.int (iI (((a : Nat) : Int))), .int (iI (((b : Nat) : Int))), .int (iI (rs))]) (rest := []) (w' := (pg_w ad cs rp (q_wgM M a b rs))) (z := q_wgV M a b rs) ⟨hx, hb, hml, hown, hg⟩ (c_widenGaps l _ a b rs hab hb6 ht hrs) (cwV 3 hg (gt_V (List.mem_append_right _ (List.mem_append_right _ (List.mem_append_right _ (List.mem_append_right _ (List.mem_append_right _ (List.mem_append_right _ (List.mem_append_left _ (List.mem_of_getElem? (i := 33) rfl)))))))) (List.mem_append_right _ (List.mem_append_right _ (List.mem_append_right _ (List.mem_append_right _ (List.mem_append_right _ (List.mem_append_right _ (List.mem_append_left _ (List.mem_of_getElem? (i := 34) rfl)))))))) (List.mem_append_left _ (List.mem_of_getElem? (i := 8) rfl)) (List.mem_append_right _ (List.mem_append_left _ (List.mem_of_getElem? (i := 6) rfl))) (List.mem_append_right _ (List.mem_append_right _ (List.mem_append_right _ (List.mem_append_right _ (List.mem_append_right _ (List.mem_append_right _ (List.mem_append_left _ (List.mem_of_getElem? (i := 35) rfl))))))))) rfl rfl rfl (by decide +kernel) ⟨Nat.le_of_ble_eq_true rfl, Nat.le_of_ble_eq_true rfl⟩) hK hP hD hS hA (va_recv hK hP (ci := 3) (q0 := 3) rfl (wl_atE (by decide) rfl)) rfl hl.1 rfl (Nat.le_of_ble_eq_true rfl) d_LN_align_106 ⟨Nat.zero_le _, Nat.zero_le _⟩ (fun H locs hP hD hS => ?_)
            obtain ⟨M_10, eM_10⟩ : ∃ q_, q_ = q_wgM M a b rs := ⟨_, rfl⟩
            have hP : va_P D vwCl (pg_w ad cs rp M_10) H := by rw [eM_10]; exact hP
            have hD : va_D (va_A (pg_w ad cs rp M) s.heap.size) (pg_w ad cs rp M_10) := by rw [eM_10]; exact hD
            refine lv_istore (lv' := [(7, .int (iI (q_wgV M a b rs))), (6, .int (iI (0))), (5, .int (iI (M (30 + 4 * i) (5)))), (4, .int (iI (rs))), (0, .ref (ad (3))), (1, .ref (ad (29 + 4 * i))), (2, .int (iI (((a : Nat) : Int)))), (3, .int (iI (((b : Nat) : Int))))]) hx hb d_LN_align_109 hl (by decide) rfl (fun ls hl => ?_)
            refine lv_iload_n hx hb d_LN_align_111 rfl (lv_at hl 6 rfl) ?_
            refine lv_istore (lv' := [(8, .int (iI (((a : Nat) : Int)))), (7, .int (iI (q_wgV M a b rs))), (6, .int (iI (0))), (5, .int (iI (M (30 + 4 * i) (5)))), (4, .int (iI (rs))), (0, .ref (ad (3))), (1, .ref (ad (29 + 4 * i))), (2, .int (iI (((a : Nat) : Int)))), (3, .int (iI (((b : Nat) : Int))))]) hx hb d_LN_align_112 hl (by decide) rfl (fun ls hl => ?_)
            obtain ⟨MF_11, eMF_11⟩ : ∃ q_, q_ = q_mv (0) (b - a) a M_10 := ⟨_, rfl⟩
            refine lp_align hx hb hml hg hown hK hA i a b (0) (q_wgV M a b rs) hb6 MF_11 (fun H locs ls hP hD hS hl => ?_) (b - a) a M_10 (by omega) (by omega) eMF_11.symm H locs ls hP hD hS (lv_sub hl [0, 1, 2, 5, 6, 7, 8] rfl)
            have hn3 : MF_11 3 2 = ((nl : Nat) : Int) := by rw [eMF_11, q_mv_eq _ _ _ _ 3 (by omega), eM_10, q_wgM_eq _ _ _ _ 3 (by omega)]; exact hn
            refine lv_aload_n hx hb d_LN_align_140 rfl (lv_at hl 2 rfl) ?_
            refine z_get (ci := 3) (C := R_LN) (T := T_LN) (N := 6) (v := .ref (ad (10))) hx hb hg in_LN hown hK hP (3) (by decide) rfl rfl 0 (by decide) (hg _ (List.mem_append_right _ (List.mem_append_right _ (List.mem_append_right _ (List.mem_append_right _ (List.mem_append_left _ (List.mem_of_getElem? (i := 3) rfl))))))) (fun _ h9 => h9) rfl d_LN_align_141 ?_
            refine z_bipush hx hb (z := 8) d_LN_align_144 (by decide) ?_
            refine z_aald hx hb hK hP (10) 1 (by decide) (fun _ => rfl) rfl rfl (8) rfl (by decide) (by decide) d_LN_align_146 ?_
            refine lv_aload_n hx hb d_LN_align_147 rfl (lv_at hl 2 rfl) ?_
            refine z_get (ci := 3) (C := R_LN) (T := T_LN) (N := 6) (v := .int (iI (MF_11 (3) 2))) hx hb hg in_LN hown hK hP (3) (by decide) rfl rfl 2 (by decide) (hg _ (List.mem_append_right _ (List.mem_append_right _ (List.mem_append_right _ (List.mem_append_right _ (List.mem_append_left _ (List.mem_of_getElem? (i := 8) rfl))))))) (fun _ h9 => h9) rfl d_LN_align_148 ?_
            refine lv_iload hx hb d_LN_align_151 (lv_at hl 1 rfl) ?_
            refine z_iast hx hb hK hP hD hS (21) 0 (by decide) (fun _ => rfl) rfl (v := 0) (nl) hn3 (by omega) (by decide) d_LN_align_153 (fun H locs hP hD hS => ?_)
            obtain ⟨M_12, eM_12⟩ : ∃ q_, q_ = mset MF_11 (21) (nl) (0) := ⟨_, rfl⟩
            have hP : va_P D vwCl (pg_w ad cs rp M_12) H := by rw [eM_12]; exact hP
            have hD : va_D (va_A (pg_w ad cs rp M) s.heap.size) (pg_w ad cs rp M_12) := by rw [eM_12]; exact hD
            have hn4 : M_12 3 2 = ((nl : Nat) : Int) := by rw [eM_12, mset_ne (by omega)]; exact hn3
            refine lv_aload_n hx hb d_LN_align_154 rfl (lv_at hl 2 rfl) ?_
            refine z_get (ci := 3) (C := R_LN) (T := T_LN) (N := 6) (v := .ref (ad (10))) hx hb hg in_LN hown hK hP (3) (by decide) rfl rfl 0 (by decide) (hg _ (List.mem_append_right _ (List.mem_append_right _ (List.mem_append_right _ (List.mem_append_right _ (List.mem_append_left _ (List.mem_of_getElem? (i := 3) rfl))))))) (fun _ h9 => h9) rfl d_LN_align_155 ?_
            refine z_bipush hx hb (z := 9) d_LN_align_158 (by decide) ?_
            refine z_aald hx hb hK hP (10) 1 (by decide) (fun _ => rfl) rfl rfl (9) rfl (by decide) (by decide) d_LN_align_160 ?_
            refine lv_aload_n hx hb d_LN_align_161 rfl (lv_at hl 2 rfl) ?_
            refine z_get (ci := 3) (C := R_LN) (T := T_LN) (N := 6) (v := .int (iI (M_12 (3) 2))) hx hb hg in_LN hown hK hP (3) (by decide) rfl rfl 2 (by decide) (hg _ (List.mem_append_right _ (List.mem_append_right _ (List.mem_append_right _ (List.mem_append_right _ (List.mem_append_left _ (List.mem_of_getElem? (i := 8) rfl))))))) (fun _ h9 => h9) rfl d_LN_align_162 ?_
            refine lv_iload hx hb d_LN_align_165 (lv_at hl 0 rfl) ?_
            refine z_iast hx hb hK hP hD hS (22) 0 (by decide) (fun _ => rfl) rfl (v := q_wgV M a b rs) (nl) hn4 (by omega) (by decide) d_LN_align_167 (fun H locs hP hD hS => ?_)
            obtain ⟨M_13, eM_13⟩ : ∃ q_, q_ = mset M_12 (22) (nl) (q_wgV M a b rs) := ⟨_, rfl⟩
            have hP : va_P D vwCl (pg_w ad cs rp M_13) H := by rw [eM_13]; exact hP
            have hD : va_D (va_A (pg_w ad cs rp M) s.heap.size) (pg_w ad cs rp M_13) := by rw [eM_13]; exact hD
            have hM : M_13 = q_al M i a b bp nl := by rw [eM_13, eM_12, eMF_11, eM_10]; unfold q_al; rw [← ers]; rw [if_neg c_49, if_neg c_62, if_pos ⟨c_77, by omega, c_98⟩]
            have eW : pg_w ad cs rp (M_13) = pg_w ad cs rp (q_al M i a b bp nl) := by rw [hM]
            have hP := Eq.mp (congrArg (fun q => va_P D vwCl q _) eW) hP
            have hD := Eq.mp (congrArg (va_D _) eW) hD
            exact W.vret hx hb hr (fun t ht hW => ⟨⟨(), rfl, trivial, by rw [ht]; exact hP, va_K.moved hW.alike hK, hD⟩, hS.F ht⟩) hS.2.2 d_LN_align_168
    · refine lv_iload hx hb d_LN_align_65 (lv_at hl 3 rfl) ?_
      refine z_iconst hx hb (z := 2) d_LN_align_67 ?_
      refine z_idiv hx hb d_LN_align_68 ⟨by omega, by omega⟩ ⟨by decide, by decide⟩ (by omega) (v := ((rs).tdiv (2))) rfl ?_
      refine lv_istore (lv' := [(6, .int (iI (((rs).tdiv (2))))), (7, .int (iI (0))), (5, .int (iI (M (30 + 4 * i) (5)))), (4, .int (iI (rs))), (0, .ref (ad (3))), (1, .ref (ad (29 + 4 * i))), (2, .int (iI (((a : Nat) : Int)))), (3, .int (iI (((b : Nat) : Int))))]) hx hb d_LN_align_69 hl (by decide) rfl (fun ls hl => ?_)
      refine lv_goto (tgt := 111) hx hb d_LN_align_71 (by decide) ?_
      refine lv_iload_n hx hb d_LN_align_111 rfl (lv_at hl 6 rfl) ?_
      refine lv_istore (lv' := [(8, .int (iI (((a : Nat) : Int)))), (6, .int (iI (((rs).tdiv (2))))), (7, .int (iI (0))), (5, .int (iI (M (30 + 4 * i) (5)))), (4, .int (iI (rs))), (0, .ref (ad (3))), (1, .ref (ad (29 + 4 * i))), (2, .int (iI (((a : Nat) : Int)))), (3, .int (iI (((b : Nat) : Int))))]) hx hb d_LN_align_112 hl (by decide) rfl (fun ls hl => ?_)
      obtain ⟨MF_14, eMF_14⟩ : ∃ q_, q_ = q_mv (((rs).tdiv (2))) (b - a) a M := ⟨_, rfl⟩
      refine lp_align hx hb hml hg hown hK hA i a b (((rs).tdiv (2))) (0) hb6 MF_14 (fun H locs ls hP hD hS hl => ?_) (b - a) a M (by omega) (by omega) eMF_14.symm s.heap [] ls hP hD hS (lv_sub hl [0, 2, 1, 5, 6, 7, 8] rfl)
      have hn3 : MF_14 3 2 = ((nl : Nat) : Int) := by rw [eMF_14, q_mv_eq _ _ _ _ 3 (by omega)]; exact hn
      refine lv_aload_n hx hb d_LN_align_140 rfl (lv_at hl 2 rfl) ?_
      refine z_get (ci := 3) (C := R_LN) (T := T_LN) (N := 6) (v := .ref (ad (10))) hx hb hg in_LN hown hK hP (3) (by decide) rfl rfl 0 (by decide) (hg _ (List.mem_append_right _ (List.mem_append_right _ (List.mem_append_right _ (List.mem_append_right _ (List.mem_append_left _ (List.mem_of_getElem? (i := 3) rfl))))))) (fun _ h9 => h9) rfl d_LN_align_141 ?_
      refine z_bipush hx hb (z := 8) d_LN_align_144 (by decide) ?_
      refine z_aald hx hb hK hP (10) 1 (by decide) (fun _ => rfl) rfl rfl (8) rfl (by decide) (by decide) d_LN_align_146 ?_
      refine lv_aload_n hx hb d_LN_align_147 rfl (lv_at hl 2 rfl) ?_
      refine z_get (ci := 3) (C := R_LN) (T := T_LN) (N := 6) (v := .int (iI (MF_14 (3) 2))) hx hb hg in_LN hown hK hP (3) (by decide) rfl rfl 2 (by decide) (hg _ (List.mem_append_right _ (List.mem_append_right _ (List.mem_append_right _ (List.mem_append_right _ (List.mem_append_left _ (List.mem_of_getElem? (i := 8) rfl))))))) (fun _ h9 => h9) rfl d_LN_align_148 ?_
      refine lv_iload hx hb d_LN_align_151 (lv_at hl 1 rfl) ?_
      refine z_iast hx hb hK hP hD hS (21) 0 (by decide) (fun _ => rfl) rfl (v := ((rs).tdiv (2))) (nl) hn3 (by omega) (by decide) d_LN_align_153 (fun H locs hP hD hS => ?_)
      obtain ⟨M_15, eM_15⟩ : ∃ q_, q_ = mset MF_14 (21) (nl) (((rs).tdiv (2))) := ⟨_, rfl⟩
      have hP : va_P D vwCl (pg_w ad cs rp M_15) H := by rw [eM_15]; exact hP
      have hD : va_D (va_A (pg_w ad cs rp M) s.heap.size) (pg_w ad cs rp M_15) := by rw [eM_15]; exact hD
      have hn4 : M_15 3 2 = ((nl : Nat) : Int) := by rw [eM_15, mset_ne (by omega)]; exact hn3
      refine lv_aload_n hx hb d_LN_align_154 rfl (lv_at hl 2 rfl) ?_
      refine z_get (ci := 3) (C := R_LN) (T := T_LN) (N := 6) (v := .ref (ad (10))) hx hb hg in_LN hown hK hP (3) (by decide) rfl rfl 0 (by decide) (hg _ (List.mem_append_right _ (List.mem_append_right _ (List.mem_append_right _ (List.mem_append_right _ (List.mem_append_left _ (List.mem_of_getElem? (i := 3) rfl))))))) (fun _ h9 => h9) rfl d_LN_align_155 ?_
      refine z_bipush hx hb (z := 9) d_LN_align_158 (by decide) ?_
      refine z_aald hx hb hK hP (10) 1 (by decide) (fun _ => rfl) rfl rfl (9) rfl (by decide) (by decide) d_LN_align_160 ?_
      refine lv_aload_n hx hb d_LN_align_161 rfl (lv_at hl 2 rfl) ?_
      refine z_get (ci := 3) (C := R_LN) (T := T_LN) (N := 6) (v := .int (iI (M_15 (3) 2))) hx hb hg in_LN hown hK hP (3) (by decide) rfl rfl 2 (by decide) (hg _ (List.mem_append_right _ (List.mem_append_right _ (List.mem_append_right _ (List.mem_append_right _ (List.mem_append_left _ (List.mem_of_getElem? (i := 8) rfl))))))) (fun _ h9 => h9) rfl d_LN_align_162 ?_
      refine lv_iload hx hb d_LN_align_165 (lv_at hl 0 rfl) ?_
      refine z_iast hx hb hK hP hD hS (22) 0 (by decide) (fun _ => rfl) rfl (v := 0) (nl) hn4 (by omega) (by decide) d_LN_align_167 (fun H locs hP hD hS => ?_)
      obtain ⟨M_16, eM_16⟩ : ∃ q_, q_ = mset M_15 (22) (nl) (0) := ⟨_, rfl⟩
      have hP : va_P D vwCl (pg_w ad cs rp M_16) H := by rw [eM_16]; exact hP
      have hD : va_D (va_A (pg_w ad cs rp M) s.heap.size) (pg_w ad cs rp M_16) := by rw [eM_16]; exact hD
      have hM : M_16 = q_al M i a b bp nl := by rw [eM_16, eM_15, eMF_14]; unfold q_al; rw [← ers]; rw [if_neg c_49, if_pos c_62]
      have eW : pg_w ad cs rp (M_16) = pg_w ad cs rp (q_al M i a b bp nl) := by rw [hM]
      have hP := Eq.mp (congrArg (fun q => va_P D vwCl q _) eW) hP
      have hD := Eq.mp (congrArg (va_D _) eW) hD
      exact W.vret hx hb hr (fun t ht hW => ⟨⟨(), rfl, trivial, by rw [ht]; exact hP, va_K.moved hW.alike hK, hD⟩, hS.F ht⟩) hS.2.2 d_LN_align_168
  · refine lv_iload hx hb d_LN_align_52 (lv_at hl 3 rfl) ?_
    refine lv_istore (lv' := [(6, .int (iI (rs))), (7, .int (iI (0))), (5, .int (iI (M (30 + 4 * i) (5)))), (4, .int (iI (rs))), (0, .ref (ad (3))), (1, .ref (ad (29 + 4 * i))), (2, .int (iI (((a : Nat) : Int)))), (3, .int (iI (((b : Nat) : Int))))]) hx hb d_LN_align_54 hl (by decide) rfl (fun ls hl => ?_)
    refine lv_goto (tgt := 111) hx hb d_LN_align_56 (by decide) ?_
    refine lv_iload_n hx hb d_LN_align_111 rfl (lv_at hl 6 rfl) ?_
    refine lv_istore (lv' := [(8, .int (iI (((a : Nat) : Int)))), (6, .int (iI (rs))), (7, .int (iI (0))), (5, .int (iI (M (30 + 4 * i) (5)))), (4, .int (iI (rs))), (0, .ref (ad (3))), (1, .ref (ad (29 + 4 * i))), (2, .int (iI (((a : Nat) : Int)))), (3, .int (iI (((b : Nat) : Int))))]) hx hb d_LN_align_112 hl (by decide) rfl (fun ls hl => ?_)
    obtain ⟨MF_17, eMF_17⟩ : ∃ q_, q_ = q_mv (rs) (b - a) a M := ⟨_, rfl⟩
    refine lp_align hx hb hml hg hown hK hA i a b (rs) (0) hb6 MF_17 (fun H locs ls hP hD hS hl => ?_) (b - a) a M (by omega) (by omega) eMF_17.symm s.heap [] ls hP hD hS (lv_sub hl [0, 2, 1, 5, 6, 7, 8] rfl)
    have hn3 : MF_17 3 2 = ((nl : Nat) : Int) := by rw [eMF_17, q_mv_eq _ _ _ _ 3 (by omega)]; exact hn
    refine lv_aload_n hx hb d_LN_align_140 rfl (lv_at hl 2 rfl) ?_
    refine z_get (ci := 3) (C := R_LN) (T := T_LN) (N := 6) (v := .ref (ad (10))) hx hb hg in_LN hown hK hP (3) (by decide) rfl rfl 0 (by decide) (hg _ (List.mem_append_right _ (List.mem_append_right _ (List.mem_append_right _ (List.mem_append_right _ (List.mem_append_left _ (List.mem_of_getElem? (i := 3) rfl))))))) (fun _ h9 => h9) rfl d_LN_align_141 ?_
    refine z_bipush hx hb (z := 8) d_LN_align_144 (by decide) ?_
    refine z_aald hx hb hK hP (10) 1 (by decide) (fun _ => rfl) rfl rfl (8) rfl (by decide) (by decide) d_LN_align_146 ?_
    refine lv_aload_n hx hb d_LN_align_147 rfl (lv_at hl 2 rfl) ?_
    refine z_get (ci := 3) (C := R_LN) (T := T_LN) (N := 6) (v := .int (iI (MF_17 (3) 2))) hx hb hg in_LN hown hK hP (3) (by decide) rfl rfl 2 (by decide) (hg _ (List.mem_append_right _ (List.mem_append_right _ (List.mem_append_right _ (List.mem_append_right _ (List.mem_append_left _ (List.mem_of_getElem? (i := 8) rfl))))))) (fun _ h9 => h9) rfl d_LN_align_148 ?_
    refine lv_iload hx hb d_LN_align_151 (lv_at hl 1 rfl) ?_
    refine z_iast hx hb hK hP hD hS (21) 0 (by decide) (fun _ => rfl) rfl (v := rs) (nl) hn3 (by omega) (by decide) d_LN_align_153 (fun H locs hP hD hS => ?_)
    obtain ⟨M_18, eM_18⟩ : ∃ q_, q_ = mset MF_17 (21) (nl) (rs) := ⟨_, rfl⟩
    have hP : va_P D vwCl (pg_w ad cs rp M_18) H := by rw [eM_18]; exact hP
    have hD : va_D (va_A (pg_w ad cs rp M) s.heap.size) (pg_w ad cs rp M_18) := by rw [eM_18]; exact hD
    have hn4 : M_18 3 2 = ((nl : Nat) : Int) := by rw [eM_18, mset_ne (by omega)]; exact hn3
    refine lv_aload_n hx hb d_LN_align_154 rfl (lv_at hl 2 rfl) ?_
    refine z_get (ci := 3) (C := R_LN) (T := T_LN) (N := 6) (v := .ref (ad (10))) hx hb hg in_LN hown hK hP (3) (by decide) rfl rfl 0 (by decide) (hg _ (List.mem_append_right _ (List.mem_append_right _ (List.mem_append_right _ (List.mem_append_right _ (List.mem_append_left _ (List.mem_of_getElem? (i := 3) rfl))))))) (fun _ h9 => h9) rfl d_LN_align_155 ?_
    refine z_bipush hx hb (z := 9) d_LN_align_158 (by decide) ?_
    refine z_aald hx hb hK hP (10) 1 (by decide) (fun _ => rfl) rfl rfl (9) rfl (by decide) (by decide) d_LN_align_160 ?_
    refine lv_aload_n hx hb d_LN_align_161 rfl (lv_at hl 2 rfl) ?_
    refine z_get (ci := 3) (C := R_LN) (T := T_LN) (N := 6) (v := .int (iI (M_18 (3) 2))) hx hb hg in_LN hown hK hP (3) (by decide) rfl rfl 2 (by decide) (hg _ (List.mem_append_right _ (List.mem_append_right _ (List.mem_append_right _ (List.mem_append_right _ (List.mem_append_left _ (List.mem_of_getElem? (i := 8) rfl))))))) (fun _ h9 => h9) rfl d_LN_align_162 ?_
    refine lv_iload hx hb d_LN_align_165 (lv_at hl 0 rfl) ?_
    refine z_iast hx hb hK hP hD hS (22) 0 (by decide) (fun _ => rfl) rfl (v := 0) (nl) hn4 (by omega) (by decide) d_LN_align_167 (fun H locs hP hD hS => ?_)
    obtain ⟨M_19, eM_19⟩ : ∃ q_, q_ = mset M_18 (22) (nl) (0) := ⟨_, rfl⟩
    have hP : va_P D vwCl (pg_w ad cs rp M_19) H := by rw [eM_19]; exact hP
    have hD : va_D (va_A (pg_w ad cs rp M) s.heap.size) (pg_w ad cs rp M_19) := by rw [eM_19]; exact hD
    have hM : M_19 = q_al M i a b bp nl := by rw [eM_19, eM_18, eMF_17]; unfold q_al; rw [← ers]; rw [if_pos c_49]
    have eW : pg_w ad cs rp (M_19) = pg_w ad cs rp (q_al M i a b bp nl) := by rw [hM]
    have hP := Eq.mp (congrArg (fun q => va_P D vwCl q _) eW) hP
    have hD := Eq.mp (congrArg (va_D _) eW) hD
    exact W.vret hx hb hr (fun t ht hW => ⟨⟨(), rfl, trivial, by rw [ht]; exact hP, va_K.moved hW.alike hK, hD⟩, hS.F ht⟩) hS.2.2 d_LN_align_168
set_option maxHeartbeats 4000000 in
set_option maxRecDepth 100000 in
/-- Lines.addLine -/
theorem c_addLine (l : Launch) {D : va_G} {ad : Nat → Nat} {cs : pg_C} {rp : Option Nat} {M : Nat → Nat → Int} (sz : Nat) (i n a b bp nl : Nat) (x : Int) (hab : a ≤ b) (hb6 : b ≤ 600) (hbp : bp ≤ 600) (hb1 : b < bp → 1 ≤ b) (hp : wfP M i n) (ht : wfT M) (hx0 : 0 ≤ x ∧ x ≤ 10000) (hbe : M (29 + 4 * i) 5 = ((bp : Nat) : Int)) (hn : M 3 2 = ((nl : Nat) : Int)) (hn6 : nl < 630) (h1 : 0 ≤ M (30 + 4 * i) 1 ∧ M (30 + 4 * i) 1 ≤ 5000) (h5 : 0 ≤ M (30 + 4 * i) 5 ∧ M (30 + 4 * i) 5 ≤ 3) (h10 : 0 ≤ M (30 + 4 * i) 10 ∧ M (30 + 4 * i) 10 ≤ 2000) : Met l y_LN_addLine ws_LN_addLine ({ frames := 4, cells := 0, slots := 0, locals := 102 } : Room) (va_Pc [.ref (ad (3)), .int (iI (((i : Nat) : Int))), .int (iI (((a : Nat) : Int))), .int (iI (((b : Nat) : Int))), .int (iI (x))] (rw_B D vwCl (pg_tys cs) (pg_w ad cs rp M) sz)) (va_Qv (fun _ : Unit => True) (rw_E D vwCl (pg_tys cs) (pg_w ad cs rp M) (pg_w ad cs rp (q_ad M i n a b bp nl x)) sz) (va_A (pg_w ad cs rp M) sz)) 0 0 (va_A (pg_w ad cs rp M) sz) := by
  refine Met.ofW (cc := b_LN_addLine) (maxL := 7) (ret := none) (by decide) rfl ?_
  intro p e s m args below meth c s₁ B hml hv
  obtain ⟨rfl, hsz, hP, hK, hD0⟩ := hv
  have hx := B.exec
  have hb := B.bytes
  have hr := B.returns
  have hts := atoms_spec (ws := ws_LN_addLine) B.pre
  have hg : ∀ w ∈ gt, w.before _ s = true := fun w h => hts w (List.mem_cons_of_mem _ h)
  have hown : s.vm.findClass R_LN = some m.cls := findClass_of_methodNamed B.named
  have hlocks := B.notSynchronized
  subst hsz
  have hD := hD0.self (sz := s.heap.size)
  have hA : ∀ q : Nat, s.heap.size ≤ q → va_A (pg_w ad cs rp M) s.heap.size q := fun q h => Or.inr h
  have hS : va_S (va_A (pg_w ad cs rp M) s.heap.size) s.heap s.heap [] := va_S.rf
  have hl := lv_entry ([.ref (ad (3)), .int (iI (((i : Nat) : Int))), .int (iI (((a : Nat) : Int))), .int (iI (((b : Nat) : Int))), .int (iI (x))]) (n := 7) (Nat.le_of_ble_eq_true rfl)
  rw [lg_entry_eq]
  generalize (lg_sl ([.ref (ad (3)), .int (iI (((i : Nat) : Int))), .int (iI (((a : Nat) : Int))), .int (iI (((b : Nat) : Int))), .int (iI (x))]) ++ List.replicate (7 - (lg_sl ([.ref (ad (3)), .int (iI (((i : Nat) : Int))), .int (iI (((a : Nat) : Int))), .int (iI (((b : Nat) : Int))), .int (iI (x))])).length) Slot.unset).toArray = ls at hl ⊢
  have hl : lv_has ls 7 [(0, .ref (ad (3))), (1, .int (iI (((i : Nat) : Int)))), (2, .int (iI (((a : Nat) : Int)))), (3, .int (iI (((b : Nat) : Int)))), (4, .int (iI (x)))] := hl
  obtain ⟨hi, hnn, hs, hz, hz2⟩ := id hp
  obtain ⟨so, eso⟩ : ∃ q_, q_ = p_solid (M 7) a b := ⟨_, rfl⟩
  have hso : so ≤ b := by rw [eso]; exact p_solid_le _ _ _
  have hso2 : a ≤ so := by rw [eso]; exact p_solid_ge _ _ _ hab
  have hen := q_endb (i := i) (n := n) hp ht hx0 hab hb6
  rw [← eso] at hen
  refine lv_aload_n hx hb d_LN_addLine_0 rfl (lv_at hl 0 rfl) ?_
  refine z_get (ci := 3) (C := R_LN) (T := T_LN) (N := 6) (v := .ref (ad (1))) hx hb hg in_LN hown hK hP (3) (by decide) rfl rfl 3 (by decide) (hg _ (List.mem_append_right _ (List.mem_append_right _ (List.mem_append_right _ (List.mem_append_right _ (List.mem_append_left _ (List.mem_of_getElem? (i := 11) rfl))))))) (fun _ h9 => h9) rfl d_LN_addLine_1 ?_
  refine z_get (ci := 1) (C := R_TX) (T := T_TX) (N := 6) (v := .ref (ad (6))) hx hb hg in_TX hown hK hP (1) (by decide) rfl rfl 0 (by decide) (hg _ (List.mem_append_right _ (List.mem_append_right _ (List.mem_append_left _ (List.mem_of_getElem? (i := 17) rfl))))) (fun _ h9 => h9) rfl d_LN_addLine_4 ?_
  refine lv_iload_n hx hb d_LN_addLine_7 rfl (lv_at hl 1 rfl) ?_
  refine z_aald hx hb hK hP (6) 2 (by decide) (fun _ => rfl) rfl rfl (i) rfl (by omega) (by decide) d_LN_addLine_8 ?_
  refine lv_astore (lv' := [(5, .ref (ad (29 + 4 * i))), (0, .ref (ad (3))), (1, .int (iI (((i : Nat) : Int)))), (2, .int (iI (((a : Nat) : Int)))), (3, .int (iI (((b : Nat) : Int)))), (4, .int (iI (x)))]) hx hb d_LN_addLine_9 hl (by decide) rfl (fun ls hl => ?_)
  refine lv_aload_n hx hb d_LN_addLine_11 rfl (lv_at hl 1 rfl) ?_
  refine z_get (ci := 3) (C := R_LN) (T := T_LN) (N := 6) (v := .ref (ad (1))) hx hb hg in_LN hown hK hP (3) (by decide) rfl rfl 3 (by decide) (hg _ (List.mem_append_right _ (List.mem_append_right _ (List.mem_append_right _ (List.mem_append_right _ (List.mem_append_left _ (List.mem_of_getElem? (i := 11) rfl))))))) (fun _ h9 => h9) rfl d_LN_addLine_12 ?_
  refine lv_iload_n hx hb d_LN_addLine_15 rfl (lv_at hl 3 rfl) ?_
  refine lv_iload_n hx hb d_LN_addLine_16 rfl (lv_at hl 4 rfl) ?_
  refine ro_V (As := [.int (iI (((a : Nat) : Int))), .int (iI (((b : Nat) : Int)))]) (rest := []) (z := ((so : Nat) : Int)) ⟨hx, hb, hml, hown, hg⟩ (eso ▸ c_solidBehind l a b (by omega) hb6 (zb_7 ht)) (cwV 2 hg (gt_V (List.mem_append_right _ (List.mem_append_right _ (List.mem_append_right _ (List.mem_append_right _ (List.mem_append_right _ (List.mem_append_left _ (List.mem_of_getElem? (i := 33) rfl))))))) (List.mem_append_right _ (List.mem_append_right _ (List.mem_append_right _ (List.mem_append_right _ (List.mem_append_right _ (List.mem_append_left _ (List.mem_of_getElem? (i := 34) rfl))))))) (List.mem_append_right _ (List.mem_append_right _ (List.mem_append_right _ (List.mem_append_right _ (List.mem_append_right _ (List.mem_append_left _ (List.mem_of_getElem? (i := 35) rfl))))))) (List.mem_append_right _ (List.mem_append_left _ (List.mem_of_getElem? (i := 3) rfl))) (List.mem_append_right _ (List.mem_append_right _ (List.mem_append_right _ (List.mem_append_right _ (List.mem_append_right _ (List.mem_append_left _ (List.mem_of_getElem? (i := 36) rfl)))))))) rfl rfl rfl (by decide +kernel) ⟨Nat.le_of_ble_eq_true rfl, Nat.le_of_ble_eq_true rfl⟩) hK hP (va_recv hK hP (ci := 1) (q0 := 1) rfl (wl_atE (by decide) rfl)) rfl hl.1 rfl (Nat.le_of_ble_eq_true rfl) d_LN_addLine_17 ⟨Nat.zero_le _, Nat.zero_le _⟩ ?_
  refine lv_istore (lv' := [(6, .int (iI (((so : Nat) : Int)))), (5, .ref (ad (29 + 4 * i))), (0, .ref (ad (3))), (1, .int (iI (((i : Nat) : Int)))), (2, .int (iI (((a : Nat) : Int)))), (3, .int (iI (((b : Nat) : Int)))), (4, .int (iI (x)))]) hx hb d_LN_addLine_20 hl (by decide) rfl (fun ls hl => ?_)
  refine lv_aload_n hx hb d_LN_addLine_22 rfl (lv_at hl 2 rfl) ?_
  refine lv_aload hx hb d_LN_addLine_23 (lv_at hl 1 rfl) ?_
  refine lv_iload_n hx hb d_LN_addLine_25 rfl (lv_at hl 4 rfl) ?_
  refine lv_iload_n hx hb d_LN_addLine_26 rfl (lv_at hl 5 rfl) ?_
  refine lv_iload hx hb d_LN_addLine_27 (lv_at hl 6 rfl) ?_
  refine rw_Vv (As := [.ref (ad (29 + 4 * i)), .int (iI (((a : Nat) : Int))), .int (iI (((b : Nat) : Int))), .int (iI (x))]) (rest := []) (w' := (pg_w ad cs rp (q_ps0 M i n a b x))) ⟨hx, hb, hml, hown, hg⟩ (c_placeSigns l _ i n a b x hab hb6 hp ht hx0) (cwV 4 hg (gt_V (List.mem_append_right _ (List.mem_append_right _ (List.mem_append_right _ (List.mem_append_right _ (List.mem_append_right _ (List.mem_append_right _ (List.mem_append_left _ (List.mem_of_getElem? (i := 1) rfl)))))))) (List.mem_append_right _ (List.mem_append_right _ (List.mem_append_right _ (List.mem_append_right _ (List.mem_append_right _ (List.mem_append_right _ (List.mem_append_left _ (List.mem_of_getElem? (i := 2) rfl)))))))) (List.mem_append_left _ (List.mem_of_getElem? (i := 3) rfl)) (List.mem_append_right _ (List.mem_append_left _ (List.mem_of_getElem? (i := 6) rfl))) (List.mem_append_right _ (List.mem_append_right _ (List.mem_append_right _ (List.mem_append_right _ (List.mem_append_right _ (List.mem_append_right _ (List.mem_append_left _ (List.mem_of_getElem? (i := 3) rfl))))))))) rfl rfl rfl (by decide +kernel) ⟨Nat.le_of_ble_eq_true rfl, Nat.le_of_ble_eq_true rfl⟩) hK hP hD hS hA (va_recv hK hP (ci := 3) (q0 := 3) rfl (wl_atE (by decide) rfl)) rfl hl.1 rfl (Nat.le_of_ble_eq_true rfl) d_LN_addLine_29 ⟨Nat.zero_le _, Nat.zero_le _⟩ (fun H locs hP hD hS => ?_)
  obtain ⟨M_1, eM_1⟩ : ∃ q_, q_ = q_ps0 M i n a b x := ⟨_, rfl⟩
  have hP : va_P D vwCl (pg_w ad cs rp M_1) H := by rw [eM_1]; exact hP
  have hD : va_D (va_A (pg_w ad cs rp M) s.heap.size) (pg_w ad cs rp M_1) := by rw [eM_1]; exact hD
  have hq1 : eqb 13 25 M_1 M := by rw [eM_1]; exact (fun j hj => q_ps_eq _ _ _ _ _ _ _ _ _ _ j (by omega))
  have hnm1 : M_1 3 2 = ((nl : Nat) : Int) := by rw [hq1 3 (by omega)]; exact hn
  refine lv_aload_n hx hb d_LN_addLine_32 rfl (lv_at hl 2 rfl) ?_
  refine z_get (ci := 3) (C := R_LN) (T := T_LN) (N := 6) (v := .ref (ad (10))) hx hb hg in_LN hown hK hP (3) (by decide) rfl rfl 0 (by decide) (hg _ (List.mem_append_right _ (List.mem_append_right _ (List.mem_append_right _ (List.mem_append_right _ (List.mem_append_left _ (List.mem_of_getElem? (i := 3) rfl))))))) (fun _ h9 => h9) rfl d_LN_addLine_33 ?_
  refine z_iconst hx hb (z := 0) d_LN_addLine_36 ?_
  refine z_aald hx hb hK hP (10) 1 (by decide) (fun _ => rfl) rfl rfl (0) rfl (by decide) (by decide) d_LN_addLine_37 ?_
  refine lv_aload_n hx hb d_LN_addLine_38 rfl (lv_at hl 2 rfl) ?_
  refine z_get (ci := 3) (C := R_LN) (T := T_LN) (N := 6) (v := .int (iI (M_1 (3) 2))) hx hb hg in_LN hown hK hP (3) (by decide) rfl rfl 2 (by decide) (hg _ (List.mem_append_right _ (List.mem_append_right _ (List.mem_append_right _ (List.mem_append_right _ (List.mem_append_left _ (List.mem_of_getElem? (i := 8) rfl))))))) (fun _ h9 => h9) rfl d_LN_addLine_39 ?_
  refine lv_iload_n hx hb d_LN_addLine_42 rfl (lv_at hl 3 rfl) ?_
  refine z_iast hx hb hK hP hD hS (13) 0 (by decide) (fun _ => rfl) rfl (v := ((i : Nat) : Int)) (nl) hnm1 (by omega) (by decide) d_LN_addLine_43 (fun H locs hP hD hS => ?_)
  obtain ⟨M_2, eM_2⟩ : ∃ q_, q_ = mset M_1 (13) (nl) (((i : Nat) : Int)) := ⟨_, rfl⟩
  have hP : va_P D vwCl (pg_w ad cs rp M_2) H := by rw [eM_2]; exact hP
  have hD : va_D (va_A (pg_w ad cs rp M) s.heap.size) (pg_w ad cs rp M_2) := by rw [eM_2]; exact hD
  have hq2 : eqb 13 25 M_2 M := by rw [eM_2]; exact eqb_set hq1 (by omega) (by omega)
  have hnm2 : M_2 3 2 = ((nl : Nat) : Int) := by rw [hq2 3 (by omega)]; exact hn
  refine lv_aload_n hx hb d_LN_addLine_44 rfl (lv_at hl 2 rfl) ?_
  refine z_get (ci := 3) (C := R_LN) (T := T_LN) (N := 6) (v := .ref (ad (10))) hx hb hg in_LN hown hK hP (3) (by decide) rfl rfl 0 (by decide) (hg _ (List.mem_append_right _ (List.mem_append_right _ (List.mem_append_right _ (List.mem_append_right _ (List.mem_append_left _ (List.mem_of_getElem? (i := 3) rfl))))))) (fun _ h9 => h9) rfl d_LN_addLine_45 ?_
  refine z_iconst hx hb (z := 1) d_LN_addLine_48 ?_
  refine z_aald hx hb hK hP (10) 1 (by decide) (fun _ => rfl) rfl rfl (1) rfl (by decide) (by decide) d_LN_addLine_49 ?_
  refine lv_aload_n hx hb d_LN_addLine_50 rfl (lv_at hl 2 rfl) ?_
  refine z_get (ci := 3) (C := R_LN) (T := T_LN) (N := 6) (v := .int (iI (M_2 (3) 2))) hx hb hg in_LN hown hK hP (3) (by decide) rfl rfl 2 (by decide) (hg _ (List.mem_append_right _ (List.mem_append_right _ (List.mem_append_right _ (List.mem_append_right _ (List.mem_append_left _ (List.mem_of_getElem? (i := 8) rfl))))))) (fun _ h9 => h9) rfl d_LN_addLine_51 ?_
  refine lv_iload_n hx hb d_LN_addLine_54 rfl (lv_at hl 4 rfl) ?_
  refine z_iast hx hb hK hP hD hS (14) 0 (by decide) (fun _ => rfl) rfl (v := ((a : Nat) : Int)) (nl) hnm2 (by omega) (by decide) d_LN_addLine_55 (fun H locs hP hD hS => ?_)
  obtain ⟨M_3, eM_3⟩ : ∃ q_, q_ = mset M_2 (14) (nl) (((a : Nat) : Int)) := ⟨_, rfl⟩
  have hP : va_P D vwCl (pg_w ad cs rp M_3) H := by rw [eM_3]; exact hP
  have hD : va_D (va_A (pg_w ad cs rp M) s.heap.size) (pg_w ad cs rp M_3) := by rw [eM_3]; exact hD
  have hq3 : eqb 13 25 M_3 M := by rw [eM_3]; exact eqb_set hq2 (by omega) (by omega)
  have hnm3 : M_3 3 2 = ((nl : Nat) : Int) := by rw [hq3 3 (by omega)]; exact hn
  refine lv_aload_n hx hb d_LN_addLine_56 rfl (lv_at hl 2 rfl) ?_
  refine z_get (ci := 3) (C := R_LN) (T := T_LN) (N := 6) (v := .ref (ad (10))) hx hb hg in_LN hown hK hP (3) (by decide) rfl rfl 0 (by decide) (hg _ (List.mem_append_right _ (List.mem_append_right _ (List.mem_append_right _ (List.mem_append_right _ (List.mem_append_left _ (List.mem_of_getElem? (i := 3) rfl))))))) (fun _ h9 => h9) rfl d_LN_addLine_57 ?_
  refine z_iconst hx hb (z := 2) d_LN_addLine_60 ?_
  refine z_aald hx hb hK hP (10) 1 (by decide) (fun _ => rfl) rfl rfl (2) rfl (by decide) (by decide) d_LN_addLine_61 ?_
  refine lv_aload_n hx hb d_LN_addLine_62 rfl (lv_at hl 2 rfl) ?_
  refine z_get (ci := 3) (C := R_LN) (T := T_LN) (N := 6) (v := .int (iI (M_3 (3) 2))) hx hb hg in_LN hown hK hP (3) (by decide) rfl rfl 2 (by decide) (hg _ (List.mem_append_right _ (List.mem_append_right _ (List.mem_append_right _ (List.mem_append_right _ (List.mem_append_left _ (List.mem_of_getElem? (i := 8) rfl))))))) (fun _ h9 => h9) rfl d_LN_addLine_63 ?_
  refine lv_iload_n hx hb d_LN_addLine_66 rfl (lv_at hl 5 rfl) ?_
  refine lv_iload_n hx hb d_LN_addLine_67 rfl (lv_at hl 4 rfl) ?_
  refine z_isub hx hb d_LN_addLine_68 (v := (((b : Nat) : Int) - ((a : Nat) : Int))) rfl ?_
  refine z_iast hx hb hK hP hD hS (15) 0 (by decide) (fun _ => rfl) rfl (v := (((b : Nat) : Int) - ((a : Nat) : Int))) (nl) hnm3 (by omega) (by decide) d_LN_addLine_69 (fun H locs hP hD hS => ?_)
  obtain ⟨M_4, eM_4⟩ : ∃ q_, q_ = mset M_3 (15) (nl) ((((b : Nat) : Int) - ((a : Nat) : Int))) := ⟨_, rfl⟩
  have hP : va_P D vwCl (pg_w ad cs rp M_4) H := by rw [eM_4]; exact hP
  have hD : va_D (va_A (pg_w ad cs rp M) s.heap.size) (pg_w ad cs rp M_4) := by rw [eM_4]; exact hD
  have hq4 : eqb 13 25 M_4 M := by rw [eM_4]; exact eqb_set hq3 (by omega) (by omega)
  have hnm4 : M_4 3 2 = ((nl : Nat) : Int) := by rw [hq4 3 (by omega)]; exact hn
  refine lv_aload_n hx hb d_LN_addLine_70 rfl (lv_at hl 2 rfl) ?_
  refine z_get (ci := 3) (C := R_LN) (T := T_LN) (N := 6) (v := .ref (ad (10))) hx hb hg in_LN hown hK hP (3) (by decide) rfl rfl 0 (by decide) (hg _ (List.mem_append_right _ (List.mem_append_right _ (List.mem_append_right _ (List.mem_append_right _ (List.mem_append_left _ (List.mem_of_getElem? (i := 3) rfl))))))) (fun _ h9 => h9) rfl d_LN_addLine_71 ?_
  refine z_iconst hx hb (z := 3) d_LN_addLine_74 ?_
  refine z_aald hx hb hK hP (10) 1 (by decide) (fun _ => rfl) rfl rfl (3) rfl (by decide) (by decide) d_LN_addLine_75 ?_
  refine lv_aload_n hx hb d_LN_addLine_76 rfl (lv_at hl 2 rfl) ?_
  refine z_get (ci := 3) (C := R_LN) (T := T_LN) (N := 6) (v := .int (iI (M_4 (3) 2))) hx hb hg in_LN hown hK hP (3) (by decide) rfl rfl 2 (by decide) (hg _ (List.mem_append_right _ (List.mem_append_right _ (List.mem_append_right _ (List.mem_append_right _ (List.mem_append_left _ (List.mem_of_getElem? (i := 8) rfl))))))) (fun _ h9 => h9) rfl d_LN_addLine_77 ?_
  refine lv_iload hx hb d_LN_addLine_80 (lv_at hl 6 rfl) ?_
  refine z_iast hx hb hK hP hD hS (16) 0 (by decide) (fun _ => rfl) rfl (v := x) (nl) hnm4 (by omega) (by decide) d_LN_addLine_82 (fun H locs hP hD hS => ?_)
  obtain ⟨M_5, eM_5⟩ : ∃ q_, q_ = mset M_4 (16) (nl) (x) := ⟨_, rfl⟩
  have hP : va_P D vwCl (pg_w ad cs rp M_5) H := by rw [eM_5]; exact hP
  have hD : va_D (va_A (pg_w ad cs rp M) s.heap.size) (pg_w ad cs rp M_5) := by rw [eM_5]; exact hD
  have hq5 : eqb 13 25 M_5 M := by rw [eM_5]; exact eqb_set hq4 (by omega) (by omega)
  have hnm5 : M_5 3 2 = ((nl : Nat) : Int) := by rw [hq5 3 (by omega)]; exact hn
  refine lv_aload_n hx hb d_LN_addLine_83 rfl (lv_at hl 2 rfl) ?_
  refine z_get (ci := 3) (C := R_LN) (T := T_LN) (N := 6) (v := .ref (ad (10))) hx hb hg in_LN hown hK hP (3) (by decide) rfl rfl 0 (by decide) (hg _ (List.mem_append_right _ (List.mem_append_right _ (List.mem_append_right _ (List.mem_append_right _ (List.mem_append_left _ (List.mem_of_getElem? (i := 3) rfl))))))) (fun _ h9 => h9) rfl d_LN_addLine_84 ?_
  refine z_iconst hx hb (z := 4) d_LN_addLine_87 ?_
  refine z_aald hx hb hK hP (10) 1 (by decide) (fun _ => rfl) rfl rfl (4) rfl (by decide) (by decide) d_LN_addLine_88 ?_
  refine lv_aload_n hx hb d_LN_addLine_89 rfl (lv_at hl 2 rfl) ?_
  refine z_get (ci := 3) (C := R_LN) (T := T_LN) (N := 6) (v := .int (iI (M_5 (3) 2))) hx hb hg in_LN hown hK hP (3) (by decide) rfl rfl 2 (by decide) (hg _ (List.mem_append_right _ (List.mem_append_right _ (List.mem_append_right _ (List.mem_append_right _ (List.mem_append_left _ (List.mem_of_getElem? (i := 8) rfl))))))) (fun _ h9 => h9) rfl d_LN_addLine_90 ?_
  refine lv_iload hx hb d_LN_addLine_93 (lv_at hl 0 rfl) ?_
  refine lv_iload_n hx hb d_LN_addLine_95 rfl (lv_at hl 4 rfl) ?_
  refine z_icmp_le hx hb (tgt := 125) d_LN_addLine_96 (by decide) ⟨by omega, by omega⟩ ⟨by omega, by omega⟩ (fun c_96 => ?_) (fun c_96 => ?_)
  · refine lv_iload hx hb d_LN_addLine_125 (lv_at hl 6 rfl) ?_
    have hev : x = q_end (q_ps0 M i n a b x) a so x := by unfold q_end; rw [if_neg (by omega)]
    refine lv_topi (fun y_ ey => ?_)
    have ey := ey.trans (congrArg iI hev)
    subst ey
    refine z_iast hx hb hK hP hD hS (17) 0 (by decide) (fun _ => rfl) rfl (v := q_end (q_ps0 M i n a b x) a so x) (nl) hnm5 (by omega) (by decide) d_LN_addLine_127 (fun H locs hP hD hS => ?_)
    obtain ⟨M_6, eM_6⟩ : ∃ q_, q_ = mset M_5 (17) (nl) (q_end (q_ps0 M i n a b x) a so x) := ⟨_, rfl⟩
    have hP : va_P D vwCl (pg_w ad cs rp M_6) H := by rw [eM_6]; exact hP
    have hD : va_D (va_A (pg_w ad cs rp M) s.heap.size) (pg_w ad cs rp M_6) := by rw [eM_6]; exact hD
    have hq6 : eqb 13 25 M_6 M := by rw [eM_6]; exact eqb_set hq5 (by omega) (by omega)
    have hnm6 : M_6 3 2 = ((nl : Nat) : Int) := by rw [hq6 3 (by omega)]; exact hn
    refine lv_aload_n hx hb d_LN_addLine_128 rfl (lv_at hl 2 rfl) ?_
    refine z_get (ci := 3) (C := R_LN) (T := T_LN) (N := 6) (v := .ref (ad (10))) hx hb hg in_LN hown hK hP (3) (by decide) rfl rfl 0 (by decide) (hg _ (List.mem_append_right _ (List.mem_append_right _ (List.mem_append_right _ (List.mem_append_right _ (List.mem_append_left _ (List.mem_of_getElem? (i := 3) rfl))))))) (fun _ h9 => h9) rfl d_LN_addLine_129 ?_
    refine z_iconst hx hb (z := 5) d_LN_addLine_132 ?_
    refine z_aald hx hb hK hP (10) 1 (by decide) (fun _ => rfl) rfl rfl (5) rfl (by decide) (by decide) d_LN_addLine_133 ?_
    refine lv_aload_n hx hb d_LN_addLine_134 rfl (lv_at hl 2 rfl) ?_
    refine z_get (ci := 3) (C := R_LN) (T := T_LN) (N := 6) (v := .int (iI (M_6 (3) 2))) hx hb hg in_LN hown hK hP (3) (by decide) rfl rfl 2 (by decide) (hg _ (List.mem_append_right _ (List.mem_append_right _ (List.mem_append_right _ (List.mem_append_right _ (List.mem_append_left _ (List.mem_of_getElem? (i := 8) rfl))))))) (fun _ h9 => h9) rfl d_LN_addLine_135 ?_
    refine lv_aload_n hx hb d_LN_addLine_138 rfl (lv_at hl 2 rfl) ?_
    refine lv_aload hx hb d_LN_addLine_139 (lv_at hl 1 rfl) ?_
    refine lv_iload_n hx hb d_LN_addLine_141 rfl (lv_at hl 4 rfl) ?_
    refine lv_iload_n hx hb d_LN_addLine_142 rfl (lv_at hl 5 rfl) ?_
    have h9 : M_6 9 = M 9 := hq6 9 (by omega)
    have h30 : M_6 (30 + 4 * i) = M (30 + 4 * i) := hq6 _ (by omega)
    refine ro_V (As := [.ref (ad (29 + 4 * i)), .int (iI (((a : Nat) : Int))), .int (iI (((b : Nat) : Int)))]) (rest := [.int (iI (M_6 (3) 2)), .ref (ad (18))]) (z := p_hgt (M 9) b (b - a) a (M (30 + 4 * i) 10)) ⟨hx, hb, hml, hown, hg⟩ ((show p_hgt (M_6 9) b (b - a) a (M_6 (30 + 4 * i) 10) = p_hgt (M 9) b (b - a) a (M (30 + 4 * i) 10) by rw [h9, h30]) ▸ c_heightOf l i a b (by omega) hi hb6 (eqb_wfT hq6 (by omega) ht) (by rw [h30]; exact h10)) (cwV 3 hg (gt_V (List.mem_append_right _ (List.mem_append_right _ (List.mem_append_right _ (List.mem_append_right _ (List.mem_append_right _ (List.mem_append_right _ (List.mem_append_left _ (List.mem_of_getElem? (i := 26) rfl)))))))) (List.mem_append_right _ (List.mem_append_right _ (List.mem_append_right _ (List.mem_append_right _ (List.mem_append_right _ (List.mem_append_right _ (List.mem_append_left _ (List.mem_of_getElem? (i := 27) rfl)))))))) (List.mem_append_left _ (List.mem_of_getElem? (i := 6) rfl)) (List.mem_append_right _ (List.mem_append_left _ (List.mem_of_getElem? (i := 6) rfl))) (List.mem_append_right _ (List.mem_append_right _ (List.mem_append_right _ (List.mem_append_right _ (List.mem_append_right _ (List.mem_append_right _ (List.mem_append_left _ (List.mem_of_getElem? (i := 28) rfl))))))))) rfl rfl rfl (by decide +kernel) ⟨Nat.le_of_ble_eq_true rfl, Nat.le_of_ble_eq_true rfl⟩) hK hP (va_recv hK hP (ci := 3) (q0 := 3) rfl (wl_atE (by decide) rfl)) rfl hl.1 rfl (Nat.le_of_ble_eq_true rfl) d_LN_addLine_143 ⟨Nat.zero_le _, Nat.zero_le _⟩ ?_
    refine z_iast hx hb hK hP hD hS (18) 0 (by decide) (fun _ => rfl) rfl (v := p_hgt (M 9) b (b - a) a (M (30 + 4 * i) 10)) (nl) hnm6 (by omega) (by decide) d_LN_addLine_146 (fun H locs hP hD hS => ?_)
    obtain ⟨M_7, eM_7⟩ : ∃ q_, q_ = mset M_6 (18) (nl) (p_hgt (M 9) b (b - a) a (M (30 + 4 * i) 10)) := ⟨_, rfl⟩
    have hP : va_P D vwCl (pg_w ad cs rp M_7) H := by rw [eM_7]; exact hP
    have hD : va_D (va_A (pg_w ad cs rp M) s.heap.size) (pg_w ad cs rp M_7) := by rw [eM_7]; exact hD
    have hq7 : eqb 13 25 M_7 M := by rw [eM_7]; exact eqb_set hq6 (by omega) (by omega)
    have hnm7 : M_7 3 2 = ((nl : Nat) : Int) := by rw [hq7 3 (by omega)]; exact hn
    refine lv_aload_n hx hb d_LN_addLine_147 rfl (lv_at hl 2 rfl) ?_
    refine lv_aload hx hb d_LN_addLine_148 (lv_at hl 1 rfl) ?_
    refine lv_iload_n hx hb d_LN_addLine_150 rfl (lv_at hl 4 rfl) ?_
    refine lv_iload_n hx hb d_LN_addLine_151 rfl (lv_at hl 5 rfl) ?_
    have hAD : M_7 = q_ad1 M i n a b nl x := by rw [eM_7, eM_6, eM_5, eM_4, eM_3, eM_2, eM_1]; unfold q_ad1; rw [← eso]
    have k30 : M_7 (30 + 4 * i) = M (30 + 4 * i) := hq7 _ (by omega)
    have k17 : M_7 17 nl = q_end (q_ps0 M i n a b x) a so x := by rw [eM_7, mset_ne (by omega), eM_6, mset_same]
    refine rw_Vv (As := [.ref (ad (29 + 4 * i)), .int (iI (((a : Nat) : Int))), .int (iI (((b : Nat) : Int)))]) (rest := []) (w' := (pg_w ad cs rp (q_al M_7 i a b bp nl))) ⟨hx, hb, hml, hown, hg⟩ (c_align l _ i a b bp nl hi hab hb6 hbp hb1 (eqb_wfT hq7 (by omega) ht) (by rw [hq7 _ (by omega)]; exact hbe) hnm7 hn6 (by rw [k30]; exact h1) (by rw [k30]; exact h5) (by rw [k17]; exact hen)) (cwV 3 hg (gt_V (List.mem_append_right _ (List.mem_append_right _ (List.mem_append_right _ (List.mem_append_right _ (List.mem_append_right _ (List.mem_append_right _ (List.mem_append_left _ (List.mem_of_getElem? (i := 29) rfl)))))))) (List.mem_append_right _ (List.mem_append_right _ (List.mem_append_right _ (List.mem_append_right _ (List.mem_append_right _ (List.mem_append_right _ (List.mem_append_left _ (List.mem_of_getElem? (i := 30) rfl)))))))) (List.mem_append_left _ (List.mem_of_getElem? (i := 7) rfl)) (List.mem_append_right _ (List.mem_append_left _ (List.mem_of_getElem? (i := 6) rfl))) (List.mem_append_right _ (List.mem_append_right _ (List.mem_append_right _ (List.mem_append_right _ (List.mem_append_right _ (List.mem_append_right _ (List.mem_append_left _ (List.mem_of_getElem? (i := 31) rfl))))))))) rfl rfl rfl (by decide +kernel) ⟨Nat.le_of_ble_eq_true rfl, Nat.le_of_ble_eq_true rfl⟩) hK hP hD hS hA (va_recv hK hP (ci := 3) (q0 := 3) rfl (wl_atE (by decide) rfl)) rfl hl.1 rfl (Nat.le_of_ble_eq_true rfl) d_LN_addLine_152 ⟨Nat.zero_le _, Nat.zero_le _⟩ (fun H locs hP hD hS => ?_)
    obtain ⟨M_8, eM_8⟩ : ∃ q_, q_ = q_al M_7 i a b bp nl := ⟨_, rfl⟩
    have hP : va_P D vwCl (pg_w ad cs rp M_8) H := by rw [eM_8]; exact hP
    have hD : va_D (va_A (pg_w ad cs rp M) s.heap.size) (pg_w ad cs rp M_8) := by rw [eM_8]; exact hD
    have hnz : M_8 3 2 = ((nl : Nat) : Int) := by rw [eM_8, q_al_eq _ _ _ _ _ _ 3 (by omega)]; exact hnm7
    refine lv_aload_n hx hb d_LN_addLine_155 rfl (lv_at hl 2 rfl) ?_
    refine lv_dup hx hb d_LN_addLine_156 rfl ?_
    refine z_get (ci := 3) (C := R_LN) (T := T_LN) (N := 6) (v := .int (iI (M_8 (3) 2))) hx hb hg in_LN hown hK hP (3) (by decide) rfl rfl 2 (by decide) (hg _ (List.mem_append_right _ (List.mem_append_right _ (List.mem_append_right _ (List.mem_append_right _ (List.mem_append_left _ (List.mem_of_getElem? (i := 8) rfl))))))) (fun _ h9 => h9) rfl d_LN_addLine_157 ?_
    refine z_iconst hx hb (z := 1) d_LN_addLine_160 ?_
    refine z_iadd hx hb d_LN_addLine_161 (v := (M_8 (3) 2 + 1)) rfl ?_
    refine z_put (ci := 3) (C := R_LN) (T := T_LN) (N := 6) (v := .int (iI ((M_8 (3) 2 + 1)))) (ty := .int) (ce' := (pg_ce ad cs rp)) (r := va_up (M_8 (3)) 2 ((M_8 (3) 2 + 1))) hx hb hg in_LN ty_LN tk_LN nm_LN hown hK hP hD hS (3) (by decide) rfl rfl 2 (by decide) (hg _ (List.mem_append_right _ (List.mem_append_right _ (List.mem_append_right _ (List.mem_append_right _ (List.mem_append_left _ (List.mem_of_getElem? (i := 8) rfl))))))) (fun _ h9 => h9) rfl (by decide +kernel) rfl rfl (Nat.le_of_ble_eq_true rfl) (fun _ _ => rfl) rfl d_LN_addLine_162 (fun H locs hP hD hS => ?_)
    obtain ⟨M_9, eM_9⟩ : ∃ q_, q_ = mset M_8 (3) (2) ((M_8 (3) 2 + 1)) := ⟨_, rfl⟩
    have hP : va_P D vwCl (pg_w ad cs rp M_9) H := by rw [eM_9]; exact hP
    have hD : va_D (va_A (pg_w ad cs rp M) s.heap.size) (pg_w ad cs rp M_9) := by rw [eM_9]; exact hD
    have hM : M_9 = q_ad M i n a b bp nl x := by rw [eM_9]; unfold q_ad; rw [← hAD, ← eM_8, hnz]
    have eW : pg_w ad cs rp (M_9) = pg_w ad cs rp (q_ad M i n a b bp nl x) := by rw [hM]
    have hP := Eq.mp (congrArg (fun q => va_P D vwCl q _) eW) hP
    have hD := Eq.mp (congrArg (va_D _) eW) hD
    exact W.vret hx hb hr (fun t ht hW => ⟨⟨(), rfl, trivial, by rw [ht]; exact hP, va_K.moved hW.alike hK, hD⟩, hS.F ht⟩) hS.2.2 d_LN_addLine_165
  · refine lv_aload_n hx hb d_LN_addLine_99 rfl (lv_at hl 2 rfl) ?_
    refine z_get (ci := 3) (C := R_LN) (T := T_LN) (N := 6) (v := .ref (ad (11))) hx hb hg in_LN hown hK hP (3) (by decide) rfl rfl 1 (by decide) (hg _ (List.mem_append_right _ (List.mem_append_right _ (List.mem_append_right _ (List.mem_append_right _ (List.mem_append_left _ (List.mem_of_getElem? (i := 6) rfl))))))) (fun _ h9 => h9) rfl d_LN_addLine_100 ?_
    refine z_iconst hx hb (z := 1) d_LN_addLine_103 ?_
    refine z_aald hx hb hK hP (11) 1 (by decide) (fun _ => rfl) rfl rfl (1) rfl (by decide) (by decide) d_LN_addLine_104 ?_
    refine lv_iload hx hb d_LN_addLine_105 (lv_at hl 0 rfl) ?_
    refine z_iconst hx hb (z := 1) d_LN_addLine_107 ?_
    refine z_isub hx hb d_LN_addLine_108 (v := (((so : Nat) : Int) - 1)) rfl ?_
    refine z_iald hx hb hK hP (24) 0 (by decide) (fun _ => rfl) rfl (so - 1) (by omega) (by omega) (by decide) d_LN_addLine_109 ?_
    refine lv_aload_n hx hb d_LN_addLine_110 rfl (lv_at hl 2 rfl) ?_
    refine z_get (ci := 3) (C := R_LN) (T := T_LN) (N := 6) (v := .ref (ad (11))) hx hb hg in_LN hown hK hP (3) (by decide) rfl rfl 1 (by decide) (hg _ (List.mem_append_right _ (List.mem_append_right _ (List.mem_append_right _ (List.mem_append_right _ (List.mem_append_left _ (List.mem_of_getElem? (i := 6) rfl))))))) (fun _ h9 => h9) rfl d_LN_addLine_111 ?_
    refine z_iconst hx hb (z := 2) d_LN_addLine_114 ?_
    refine z_aald hx hb hK hP (11) 1 (by decide) (fun _ => rfl) rfl rfl (2) rfl (by decide) (by decide) d_LN_addLine_115 ?_
    refine lv_iload hx hb d_LN_addLine_116 (lv_at hl 0 rfl) ?_
    refine z_iconst hx hb (z := 1) d_LN_addLine_118 ?_
    refine z_isub hx hb d_LN_addLine_119 (v := (((so : Nat) : Int) - 1)) rfl ?_
    refine z_iald hx hb hK hP (25) 0 (by decide) (fun _ => rfl) rfl (so - 1) (by omega) (by omega) (by decide) d_LN_addLine_120 ?_
    refine z_iadd hx hb d_LN_addLine_121 (v := (M_5 (24) (so - 1) + M_5 (25) (so - 1))) rfl ?_
    refine lv_goto (tgt := 127) hx hb d_LN_addLine_122 (by decide) ?_
    have hev : (M_5 (24) (so - 1) + M_5 (25) (so - 1)) = q_end (q_ps0 M i n a b x) a so x := by unfold q_end; rw [if_pos (by omega), show M_5 24 = q_ps0 M i n a b x 24 by rw [eM_5, eM_4, eM_3, eM_2, eM_1, mset_ne (by omega), mset_ne (by omega), mset_ne (by omega), mset_ne (by omega)], show M_5 25 = q_ps0 M i n a b x 25 by rw [eM_5, eM_4, eM_3, eM_2, eM_1, mset_ne (by omega), mset_ne (by omega), mset_ne (by omega), mset_ne (by omega)]]
    refine lv_topi (fun y_ ey => ?_)
    have ey := ey.trans (congrArg iI hev)
    subst ey
    refine z_iast hx hb hK hP hD hS (17) 0 (by decide) (fun _ => rfl) rfl (v := q_end (q_ps0 M i n a b x) a so x) (nl) hnm5 (by omega) (by decide) d_LN_addLine_127 (fun H locs hP hD hS => ?_)
    obtain ⟨M_10, eM_10⟩ : ∃ q_, q_ = mset M_5 (17) (nl) (q_end (q_ps0 M i n a b x) a so x) := ⟨_, rfl⟩
    have hP : va_P D vwCl (pg_w ad cs rp M_10) H := by rw [eM_10]; exact hP
    have hD : va_D (va_A (pg_w ad cs rp M) s.heap.size) (pg_w ad cs rp M_10) := by rw [eM_10]; exact hD
    have hq6 : eqb 13 25 M_10 M := by rw [eM_10]; exact eqb_set hq5 (by omega) (by omega)
    have hnm6 : M_10 3 2 = ((nl : Nat) : Int) := by rw [hq6 3 (by omega)]; exact hn
    refine lv_aload_n hx hb d_LN_addLine_128 rfl (lv_at hl 2 rfl) ?_
    refine z_get (ci := 3) (C := R_LN) (T := T_LN) (N := 6) (v := .ref (ad (10))) hx hb hg in_LN hown hK hP (3) (by decide) rfl rfl 0 (by decide) (hg _ (List.mem_append_right _ (List.mem_append_right _ (List.mem_append_right _ (List.mem_append_right _ (List.mem_append_left _ (List.mem_of_getElem? (i := 3) rfl))))))) (fun _ h9 => h9) rfl d_LN_addLine_129 ?_
    refine z_iconst hx hb (z := 5) d_LN_addLine_132 ?_
    refine z_aald hx hb hK hP (10) 1 (by decide) (fun _ => rfl) rfl rfl (5) rfl (by decide) (by decide) d_LN_addLine_133 ?_
    refine lv_aload_n hx hb d_LN_addLine_134 rfl (lv_at hl 2 rfl) ?_
    refine z_get (ci := 3) (C := R_LN) (T := T_LN) (N := 6) (v := .int (iI (M_10 (3) 2))) hx hb hg in_LN hown hK hP (3) (by decide) rfl rfl 2 (by decide) (hg _ (List.mem_append_right _ (List.mem_append_right _ (List.mem_append_right _ (List.mem_append_right _ (List.mem_append_left _ (List.mem_of_getElem? (i := 8) rfl))))))) (fun _ h9 => h9) rfl d_LN_addLine_135 ?_
    refine lv_aload_n hx hb d_LN_addLine_138 rfl (lv_at hl 2 rfl) ?_
    refine lv_aload hx hb d_LN_addLine_139 (lv_at hl 1 rfl) ?_
    refine lv_iload_n hx hb d_LN_addLine_141 rfl (lv_at hl 4 rfl) ?_
    refine lv_iload_n hx hb d_LN_addLine_142 rfl (lv_at hl 5 rfl) ?_
    have h9 : M_10 9 = M 9 := hq6 9 (by omega)
    have h30 : M_10 (30 + 4 * i) = M (30 + 4 * i) := hq6 _ (by omega)
    refine ro_V (As := [.ref (ad (29 + 4 * i)), .int (iI (((a : Nat) : Int))), .int (iI (((b : Nat) : Int)))]) (rest := [.int (iI (M_10 (3) 2)), .ref (ad (18))]) (z := p_hgt (M 9) b (b - a) a (M (30 + 4 * i) 10)) ⟨hx, hb, hml, hown, hg⟩ ((show p_hgt (M_10 9) b (b - a) a (M_10 (30 + 4 * i) 10) = p_hgt (M 9) b (b - a) a (M (30 + 4 * i) 10) by rw [h9, h30]) ▸ c_heightOf l i a b (by omega) hi hb6 (eqb_wfT hq6 (by omega) ht) (by rw [h30]; exact h10)) (cwV 3 hg (gt_V (List.mem_append_right _ (List.mem_append_right _ (List.mem_append_right _ (List.mem_append_right _ (List.mem_append_right _ (List.mem_append_right _ (List.mem_append_left _ (List.mem_of_getElem? (i := 26) rfl)))))))) (List.mem_append_right _ (List.mem_append_right _ (List.mem_append_right _ (List.mem_append_right _ (List.mem_append_right _ (List.mem_append_right _ (List.mem_append_left _ (List.mem_of_getElem? (i := 27) rfl)))))))) (List.mem_append_left _ (List.mem_of_getElem? (i := 6) rfl)) (List.mem_append_right _ (List.mem_append_left _ (List.mem_of_getElem? (i := 6) rfl))) (List.mem_append_right _ (List.mem_append_right _ (List.mem_append_right _ (List.mem_append_right _ (List.mem_append_right _ (List.mem_append_right _ (List.mem_append_left _ (List.mem_of_getElem? (i := 28) rfl))))))))) rfl rfl rfl (by decide +kernel) ⟨Nat.le_of_ble_eq_true rfl, Nat.le_of_ble_eq_true rfl⟩) hK hP (va_recv hK hP (ci := 3) (q0 := 3) rfl (wl_atE (by decide) rfl)) rfl hl.1 rfl (Nat.le_of_ble_eq_true rfl) d_LN_addLine_143 ⟨Nat.zero_le _, Nat.zero_le _⟩ ?_
    refine z_iast hx hb hK hP hD hS (18) 0 (by decide) (fun _ => rfl) rfl (v := p_hgt (M 9) b (b - a) a (M (30 + 4 * i) 10)) (nl) hnm6 (by omega) (by decide) d_LN_addLine_146 (fun H locs hP hD hS => ?_)
    obtain ⟨M_11, eM_11⟩ : ∃ q_, q_ = mset M_10 (18) (nl) (p_hgt (M 9) b (b - a) a (M (30 + 4 * i) 10)) := ⟨_, rfl⟩
    have hP : va_P D vwCl (pg_w ad cs rp M_11) H := by rw [eM_11]; exact hP
    have hD : va_D (va_A (pg_w ad cs rp M) s.heap.size) (pg_w ad cs rp M_11) := by rw [eM_11]; exact hD
    have hq7 : eqb 13 25 M_11 M := by rw [eM_11]; exact eqb_set hq6 (by omega) (by omega)
    have hnm7 : M_11 3 2 = ((nl : Nat) : Int) := by rw [hq7 3 (by omega)]; exact hn
    refine lv_aload_n hx hb d_LN_addLine_147 rfl (lv_at hl 2 rfl) ?_
    refine lv_aload hx hb d_LN_addLine_148 (lv_at hl 1 rfl) ?_
    refine lv_iload_n hx hb d_LN_addLine_150 rfl (lv_at hl 4 rfl) ?_
    refine lv_iload_n hx hb d_LN_addLine_151 rfl (lv_at hl 5 rfl) ?_
    have hAD : M_11 = q_ad1 M i n a b nl x := by rw [eM_11, eM_10, eM_5, eM_4, eM_3, eM_2, eM_1]; unfold q_ad1; rw [← eso]
    have k30 : M_11 (30 + 4 * i) = M (30 + 4 * i) := hq7 _ (by omega)
    have k17 : M_11 17 nl = q_end (q_ps0 M i n a b x) a so x := by rw [eM_11, mset_ne (by omega), eM_10, mset_same]
    refine rw_Vv (As := [.ref (ad (29 + 4 * i)), .int (iI (((a : Nat) : Int))), .int (iI (((b : Nat) : Int)))]) (rest := []) (w' := (pg_w ad cs rp (q_al M_11 i a b bp nl))) ⟨hx, hb, hml, hown, hg⟩ (c_align l _ i a b bp nl hi hab hb6 hbp hb1 (eqb_wfT hq7 (by omega) ht) (by rw [hq7 _ (by omega)]; exact hbe) hnm7 hn6 (by rw [k30]; exact h1) (by rw [k30]; exact h5) (by rw [k17]; exact hen)) (cwV 3 hg (gt_V (List.mem_append_right _ (List.mem_append_right _ (List.mem_append_right _ (List.mem_append_right _ (List.mem_append_right _ (List.mem_append_right _ (List.mem_append_left _ (List.mem_of_getElem? (i := 29) rfl)))))))) (List.mem_append_right _ (List.mem_append_right _ (List.mem_append_right _ (List.mem_append_right _ (List.mem_append_right _ (List.mem_append_right _ (List.mem_append_left _ (List.mem_of_getElem? (i := 30) rfl)))))))) (List.mem_append_left _ (List.mem_of_getElem? (i := 7) rfl)) (List.mem_append_right _ (List.mem_append_left _ (List.mem_of_getElem? (i := 6) rfl))) (List.mem_append_right _ (List.mem_append_right _ (List.mem_append_right _ (List.mem_append_right _ (List.mem_append_right _ (List.mem_append_right _ (List.mem_append_left _ (List.mem_of_getElem? (i := 31) rfl))))))))) rfl rfl rfl (by decide +kernel) ⟨Nat.le_of_ble_eq_true rfl, Nat.le_of_ble_eq_true rfl⟩) hK hP hD hS hA (va_recv hK hP (ci := 3) (q0 := 3) rfl (wl_atE (by decide) rfl)) rfl hl.1 rfl (Nat.le_of_ble_eq_true rfl) d_LN_addLine_152 ⟨Nat.zero_le _, Nat.zero_le _⟩ (fun H locs hP hD hS => ?_)
    obtain ⟨M_12, eM_12⟩ : ∃ q_, q_ = q_al M_11 i a b bp nl := ⟨_, rfl⟩
    have hP : va_P D vwCl (pg_w ad cs rp M_12) H := by rw [eM_12]; exact hP
    have hD : va_D (va_A (pg_w ad cs rp M) s.heap.size) (pg_w ad cs rp M_12) := by rw [eM_12]; exact hD
    have hnz : M_12 3 2 = ((nl : Nat) : Int) := by rw [eM_12, q_al_eq _ _ _ _ _ _ 3 (by omega)]; exact hnm7
    refine lv_aload_n hx hb d_LN_addLine_155 rfl (lv_at hl 2 rfl) ?_
    refine lv_dup hx hb d_LN_addLine_156 rfl ?_
    refine z_get (ci := 3) (C := R_LN) (T := T_LN) (N := 6) (v := .int (iI (M_12 (3) 2))) hx hb hg in_LN hown hK hP (3) (by decide) rfl rfl 2 (by decide) (hg _ (List.mem_append_right _ (List.mem_append_right _ (List.mem_append_right _ (List.mem_append_right _ (List.mem_append_left _ (List.mem_of_getElem? (i := 8) rfl))))))) (fun _ h9 => h9) rfl d_LN_addLine_157 ?_
    refine z_iconst hx hb (z := 1) d_LN_addLine_160 ?_
    refine z_iadd hx hb d_LN_addLine_161 (v := (M_12 (3) 2 + 1)) rfl ?_
    refine z_put (ci := 3) (C := R_LN) (T := T_LN) (N := 6) (v := .int (iI ((M_12 (3) 2 + 1)))) (ty := .int) (ce' := (pg_ce ad cs rp)) (r := va_up (M_12 (3)) 2 ((M_12 (3) 2 + 1))) hx hb hg in_LN ty_LN tk_LN nm_LN hown hK hP hD hS (3) (by decide) rfl rfl 2 (by decide) (hg _ (List.mem_append_right _ (List.mem_append_right _ (List.mem_append_right _ (List.mem_append_right _ (List.mem_append_left _ (List.mem_of_getElem? (i := 8) rfl))))))) (fun _ h9 => h9) rfl (by decide +kernel) rfl rfl (Nat.le_of_ble_eq_true rfl) (fun _ _ => rfl) rfl d_LN_addLine_162 (fun H locs hP hD hS => ?_)
    obtain ⟨M_13, eM_13⟩ : ∃ q_, q_ = mset M_12 (3) (2) ((M_12 (3) 2 + 1)) := ⟨_, rfl⟩
    have hP : va_P D vwCl (pg_w ad cs rp M_13) H := by rw [eM_13]; exact hP
    have hD : va_D (va_A (pg_w ad cs rp M) s.heap.size) (pg_w ad cs rp M_13) := by rw [eM_13]; exact hD
    have hM : M_13 = q_ad M i n a b bp nl x := by rw [eM_13]; unfold q_ad; rw [← hAD, ← eM_12, hnz]
    have eW : pg_w ad cs rp (M_13) = pg_w ad cs rp (q_ad M i n a b bp nl x) := by rw [hM]
    have hP := Eq.mp (congrArg (fun q => va_P D vwCl q _) eW) hP
    have hD := Eq.mp (congrArg (va_D _) eW) hD
    exact W.vret hx hb hr (fun t ht hW => ⟨⟨(), rfl, trivial, by rw [ht]; exact hP, va_K.moved hW.alike hK, hD⟩, hS.F ht⟩) hS.2.2 d_LN_addLine_165
end
section
/-! Paragraphs laid in lines, as functions on the memory. My own. -/
def pn (M : Nat → Nat → Int) (i : Nat) : Nat := (M (29 + 4 * i) 3).toNat
def pf (M : Nat → Nat → Int) (i : Nat) : Nat := (M (29 + 4 * i) 4).toNat
def pb (M : Nat → Nat → Int) (i : Nat) : Nat := (M (29 + 4 * i) 5).toNat
def nlM (M : Nat → Nat → Int) : Nat := (M 3 2).toNat
/-- a paragraph is sound -/
def wfX (M : Nat → Nat → Int) (i : Nat) : Prop := wfP M i (pn M i) ∧ (0 ≤ M (29 + 4 * i) 4 ∧ M (29 + 4 * i) 4 ≤ M (29 + 4 * i) 5 ∧ M (29 + 4 * i) 5 ≤ 600) ∧ (0 ≤ M (30 + 4 * i) 0 ∧ M (30 + 4 * i) 0 ≤ 5000) ∧ (0 ≤ M (30 + 4 * i) 1 ∧ M (30 + 4 * i) 1 ≤ 5000) ∧ (-5000 ≤ M (30 + 4 * i) 2 ∧ M (30 + 4 * i) 2 ≤ 5000) ∧ (0 ≤ M (30 + 4 * i) 3 ∧ M (30 + 4 * i) 3 ≤ 5000) ∧ (0 ≤ M (30 + 4 * i) 4 ∧ M (30 + 4 * i) 4 ≤ 5000) ∧ (0 ≤ M (30 + 4 * i) 5 ∧ M (30 + 4 * i) 5 ≤ 3) ∧ (0 ≤ M (30 + 4 * i) 6 ∧ M (30 + 4 * i) 6 ≤ 1) ∧ (0 ≤ M (30 + 4 * i) 7 ∧ M (30 + 4 * i) 7 ≤ 1) ∧ (0 ≤ M (30 + 4 * i) 8 ∧ M (30 + 4 * i) 8 ≤ 1) ∧ (0 ≤ M (30 + 4 * i) 9 ∧ M (30 + 4 * i) 9 ≤ 1) ∧ (1 ≤ M (30 + 4 * i) 10 ∧ M (30 + 4 * i) 10 ≤ 2000)
/-- the text is the same: only Lines' number, the ruler and the rows of lines and signs may differ -/
def eqL (M N : Nat → Nat → Int) : Prop := ∀ j, j ≠ 3 → j ≠ 4 → (j < 13 ∨ 25 < j) → M j = N j
theorem eqL_rf {M : Nat → Nat → Int} : eqL M M := fun _ _ _ _ => rfl
theorem eqL_tr {M N K : Nat → Nat → Int} (h : eqL M N) (g : eqL N K) : eqL M K := fun j a b c => (h j a b c).trans (g j a b c)
theorem eqL_rset {M : Nat → Nat → Int} {r : p_R} : eqL (rset M r) M := fun _ _ h _ => rset_ne h
theorem eqL_eqb {M N : Nat → Nat → Int} (h : eqb 13 25 M N) : eqL M N := fun j _ _ c => h j c
theorem eqL_n {M : Nat → Nat → Int} {v : Int} : eqL (mset M 3 2 v) M := fun _ a _ _ => mset_ne a
theorem eqL_wfT {M N : Nat → Nat → Int} (h : eqL M N) (ht : wfT N) : wfT M := by
  unfold wfT at ht ⊢
  rw [h 7 (by omega) (by omega) (by omega), h 8 (by omega) (by omega) (by omega), h 9 (by omega) (by omega) (by omega), h 2 (by omega) (by omega) (by omega)]
  exact ht
theorem eqL_wfP {M N : Nat → Nat → Int} {i n : Nat} (h : eqL M N) (ht : wfP N i n) : wfP M i n := by
  unfold wfP at ht ⊢
  rw [h (29 + 4 * i) (by omega) (by omega) (by omega), h (31 + 4 * i) (by omega) (by omega) (by omega), h (32 + 4 * i) (by omega) (by omega) (by omega)]
  exact ht
theorem eqL_29 {M N : Nat → Nat → Int} (h : eqL M N) (i : Nat) : M (29 + 4 * i) = N (29 + 4 * i) := h _ (by omega) (by omega) (by omega)
theorem eqL_30 {M N : Nat → Nat → Int} (h : eqL M N) (i : Nat) : M (30 + 4 * i) = N (30 + 4 * i) := h _ (by omega) (by omega) (by omega)
theorem eqL_wfX {M N : Nat → Nat → Int} {i : Nat} (h : eqL M N) (ht : wfX N i) : wfX M i := by
  have h1 : pn M i = pn N i := by unfold pn; rw [eqL_29 h]
  unfold wfX at ht ⊢
  rw [h1, eqL_29 h, eqL_30 h]
  exact ⟨eqL_wfP h ht.1, ht.2⟩
theorem q_ad_eqL (M : Nat → Nat → Int) (i n a b bp nl : Nat) (x : Int) : eqL (q_ad M i n a b bp nl x) M := eqL_tr eqL_n (eqL_tr (eqL_eqb (q_al_eq _ _ _ _ _ _)) (eqL_eqb (q_ad1_eq _ _ _ _ _ _ _)))
theorem q_ad_n (M : Nat → Nat → Int) (i n a b bp nl : Nat) (x : Int) : q_ad M i n a b bp nl x 3 2 = ((nl : Nat) : Int) + 1 := mset_same _ _ _ _
theorem p_lx_le {kd wd : Nat → Int} {t : p_T} {room : Int} {first beh : Nat} : ∀ f k b r, b ≤ beh → (p_lx kd wd t room first beh f k b r).1 ≤ beh := by
  intro f
  induction f with
  | zero => intro k b r h; exact h
  | succ f ih =>
    intro k b r h
    unfold p_lx
    by_cases hk : k < beh
    · rw [if_pos hk]
      have hn : p_nb kd wd t room first beh k b (p_add kd wd t r k) ≤ beh := by
        unfold p_nb
        split <;> omega
      split
      · exact hn
      · exact ih _ _ _ hn
    · rw [if_neg hk]
      exact h
/-- where the class ends the line that begins with a, at x -/
def q_lx (M : Nat → Nat → Int) (i a : Nat) (x : Int) : Nat × p_R := p_lx (M 7) (M 8) (p_tabs M i (pn M i)) (M 2 0 - M (30 + 4 * i) 1) a (pb M i) (pb M i - a) a a (0, x, 0, 0)
def q_lines (i : Nat) : Nat → Nat → Int → (Nat → Nat → Int) → (Nat → Nat → Int)
  | 0, _, _, M => M
  | f + 1, a, x, M => if a < pb M i then q_lines i f (max (a + 1) (q_lx M i a x).1) (M (30 + 4 * i) 0) (q_ad (rset M (q_lx M i a x).2) i (pn M i) a (max (a + 1) (q_lx M i a x).1) (pb M i) (nlM M) x) else M
def q_x0 (M : Nat → Nat → Int) (i : Nat) : Int := max 0 (M (30 + 4 * i) 0 + M (30 + 4 * i) 2)
def q_par (M : Nat → Nat → Int) (i : Nat) : Nat → Nat → Int :=
  if pb M i ≤ pf M i then q_ad M i (pn M i) (pf M i) (pf M i) (pb M i) (nlM M) (q_x0 M i)
  else q_lines i (pb M i - pf M i) (pf M i) (q_x0 M i) M
theorem q_lines_eqL (i : Nat) : ∀ f a x M, eqL (q_lines i f a x M) M := by
  intro f
  induction f with
  | zero => intro a x M; exact eqL_rf
  | succ f ih =>
    intro a x M
    unfold q_lines
    split
    · exact eqL_tr (ih _ _ _) (eqL_tr (q_ad_eqL _ _ _ _ _ _ _ _) eqL_rset)
    · exact eqL_rf
theorem q_par_eqL (M : Nat → Nat → Int) (i : Nat) : eqL (q_par M i) M := by
  unfold q_par
  split
  · exact q_ad_eqL _ _ _ _ _ _ _ _
  · exact q_lines_eqL _ _ _ _ _
theorem q_lines_n2 (i : Nat) : ∀ f a x (M : Nat → Nat → Int), a ≤ pb M i → 0 ≤ M 3 2 ∧ M 3 2 ≤ ((a : Nat) : Int) + ((i : Nat) : Int) → 0 ≤ q_lines i f a x M 3 2 ∧ q_lines i f a x M 3 2 ≤ ((pb M i : Nat) : Int) + ((i : Nat) : Int) := by
  intro f
  induction f with
  | zero => intro a x M h1 h2; unfold q_lines; omega
  | succ f ih =>
    intro a x M h1 h2
    unfold q_lines
    split
    · obtain ⟨M2, e2⟩ : ∃ q_, q_ = q_ad (rset M (q_lx M i a x).2) i (pn M i) a (max (a + 1) (q_lx M i a x).1) (pb M i) (nlM M) x := ⟨_, rfl⟩
      rw [← e2]
      have hq : eqL M2 M := by rw [e2]; exact eqL_tr (q_ad_eqL _ _ _ _ _ _ _ _) eqL_rset
      have hp : pb M2 i = pb M i := by unfold pb; rw [eqL_29 hq]
      have hn : M2 3 2 = ((nlM M : Nat) : Int) + 1 := by rw [e2]; exact q_ad_n _ _ _ _ _ _ _ _
      have hnn : ((nlM M : Nat) : Int) = M 3 2 := by unfold nlM; omega
      have hle : (q_lx M i a x).1 ≤ pb M i := p_lx_le _ _ _ _ h1
      have := ih (max (a + 1) (q_lx M i a x).1) (M (30 + 4 * i) 0) M2 (by rw [hp]; omega) (by omega)
      rw [hp] at this
      exact this
    · omega
theorem q_par_n (M : Nat → Nat → Int) (i : Nat) (hw : wfX M i) (hn : 0 ≤ M 3 2 ∧ M 3 2 ≤ M (29 + 4 * i) 4 + ((i : Nat) : Int)) : 0 ≤ q_par M i 3 2 ∧ q_par M i 3 2 ≤ M (29 + 4 * i) 5 + ((i : Nat) : Int) + 1 := by
  have h1 := hw.2.1
  unfold q_par
  split
  · rw [q_ad_n]
    unfold nlM
    omega
  · have h := q_lines_n2 i (pb M i - pf M i) (pf M i) (q_x0 M i) M (by omega) (by unfold pf; omega)
    have : ((pb M i : Nat) : Int) = M (29 + 4 * i) 5 := by unfold pb; omega
    omega
def q_all : Nat → Nat → (Nat → Nat → Int) → (Nat → Nat → Int)
  | 0, _, M => M
  | f + 1, i, M => q_all f (i + 1) (q_par M i)
section ZW7
variable {p : Program} {l : Launch} {e : Env} {R : Room} {s : State} {m : MethodId} {args : Array Value} {below : List Frame} {meth : Method} {c : Code} {H : Heap} {locs : List Loc} {cells slots : Nat} {Q : State → Prop}
variable {cc : ByteArray} {pc : Nat} {ls : Array Slot} {rest : List Value} {D : va_G} {cl : List vw_C} {A : Nat → Prop} {tys : List (ClassId × FieldType)} {H0 : Heap}
variable {y : MethodName} {bytes : ByteArray} {maxL nL na index : Nat} {ret : Option FieldType} {ws : List Cond} {rm : Room} {Ts : List Cond} {own C : String} {As st0 : List Value} {w : va_W} {z : Int}
def rw_EX (D : va_G) (cl : List vw_C) (tys : List (ClassId × FieldType)) (w : va_W) (w' : Option Nat → va_W) (sz : Nat) (u : Option Nat) (t : State) : Prop := va_P D cl (w' u) t.heap ∧ va_K D cl tys t ∧ va_D (va_A w sz) (w' u)
/-- a call on an object that writes, its end known but for one reference: no answer -/
theorem rw_VvX {w' : Option Nat → va_W} {b : Nat} (S : CallFix p m c cc nL s args Ts own) (hM : Met l y ws rm (va_Pc (.ref b :: As) (rw_B D cl tys w H.size)) (va_Qv (fun _ : Option Nat => True) (rw_EX D cl tys w w' H.size) (va_A w H.size)) 0 0 (va_A w H.size)) (cw : CallW R s args own C index y bytes maxL ret ws rm 0 0 na) (hK : va_K D cl tys s) (hP : va_P D cl w H) (hD : va_D A w) (hS : va_S A H0 H locs) (hA : ∀ q, H0.size ≤ q → A q) (hrc : ∃ cell : Cell, H[b]? = some cell ∧ cell.vm.isStatics = false ∧ s.vm.findClass C = some cell.cls) (hn : As.length = na) (hsize : ls.size = nL) (hst : st0 = As.reverse ++ .ref b :: rest) (hW : (rest.map fun v => v.category).sum ≤ 8) (hdg : decode cc pc = .ok (.invokevirtual index, 3)) (hf : cells + 0 ≤ R.cells ∧ slots + 0 ≤ R.slots)
    (kk : ∀ (u : Option Nat) (H1 : Heap) (locs1 : List Loc), va_P D cl (w' u) H1 → va_D A (w' u) → va_S A H0 H1 locs1 → W p l e R s m args below meth c H1 locs1 cells slots Q (F0 m (pc + 3) ls rest)) : W p l e R s m args below meth c H locs cells slots Q (F0 m pc ls st0) := by
  have hF := rw_free hD hS hA
  refine va_callv (va_runV (As := As) (rest := rest) S hM cw ⟨rw_blind, hrc, fun U hU hW => ⟨rfl, by rw [hU], by rw [hU]; exact hP, va_K.moved hW.alike hK, hD.weaken (fun _ _ _ _ => trivial)⟩⟩ rfl hn hsize hst (lv_room hW) hdg hf) hS (fun q _ h => hF q h) hF (fun u t H1 locs1 ht hvm hw hB hz1 hk1 hS1 => ?_)
  obtain ⟨hP1, hK1, hD1⟩ := hB
  rw [ht] at hP1
  exact kk u H1 locs1 hP1 (hD1.weaken (fun _ q _ h => hF q.1 h)) hS1
end ZW7
end
section
set_option maxHeartbeats 4000000 in
set_option maxRecDepth 100000 in
theorem lp_layLinesOf {p : Program} {l : Launch} {e : Env} {s : State} {m : MethodId} {args : Array Value} {below : List Frame} {meth : Method} {c : Code} {Q : State → Prop} {A : Nat → Prop} {H0 : Heap} {D : va_G} {ad : Nat → Nat} {cs : pg_C}  (hx : p.tables.exec = Jvm.exec) (hb : c.code = b_LN_layLinesOf) (hml : c.maxLocals = 7) (hg : ∀ w ∈ gt, w.before args s = true) (hown : s.vm.findClass R_LN = some m.cls) (hK : va_K D vwCl (pg_tys cs) s) (hA : ∀ q, H0.size ≤ q → A q) {M0 : Nat → Nat → Int} (i : Nat) (hw : wfX M0 i) (ht : wfT M0) (MF : Nat → Nat → Int) (kk : ∀ (u : Option Nat) (H : Heap) (locs : List Loc) (ls : Array Slot), va_P D vwCl (pg_w ad cs u MF) H → va_D A (pg_w ad cs u MF) → va_S A H0 H locs → lv_has ls 7 [] → W p l e ({ frames := 6, cells := 0, slots := 0, locals := 141 } : Room) s m args below meth c H locs 0 0 Q (F0 m 111 ls [])) : ∀ (f a : Nat) (x : Int) (rp : Option Nat) (M : Nat → Nat → Int), pb M0 i ≤ a + f → a ≤ pb M0 i → 0 ≤ x ∧ x ≤ 10000 → eqL M M0 → 0 ≤ M 3 2 ∧ M 3 2 ≤ ((a : Nat) : Int) + ((i : Nat) : Int) → q_lines i f a x M = MF → ∀ (H : Heap) (locs : List Loc) (ls : Array Slot), va_P D vwCl (pg_w ad cs rp M) H → va_D A (pg_w ad cs rp M) → va_S A H0 H locs → lv_has ls 7 [(5, .int (iI (((a : Nat) : Int)))), (4, .int (iI (x))), (3, .int (iI (M0 (30 + 4 * i) 0))), (2, .ref (ad (29 + 4 * i))), (0, .ref (ad (3))), (1, .int (iI (((i : Nat) : Int))))] → W p l e ({ frames := 6, cells := 0, slots := 0, locals := 141 } : Room) s m args below meth c H locs 0 0 Q (F0 m 63 ls []) := by
  have hi : i < 30 := hw.1.1
  intro f
  induction f with
  | zero =>
    intro a x rp M hf hab hx0 hq hnl he H locs ls hP hD hS hl
    have e29 := eqL_29 hq i
    have e30 := eqL_30 hq i
    have ht1 : wfT M := eqL_wfT hq ht
    have hw1 : wfX M i := eqL_wfX hq hw
    have epb : pb M i = pb M0 i := by unfold pb; rw [e29]
    have hbe : M (29 + 4 * i) 5 = ((pb M0 i : Nat) : Int) := by rw [← epb]; unfold pb; have := hw1.2.1; omega
    have hb6 : pb M0 i ≤ 600 := by have := hw1.2.1; omega
    have hn : M 3 2 = ((nlM M : Nat) : Int) := by unfold nlM; omega
    refine lv_iload hx hb d_LN_layLinesOf_63 (lv_at hl 0 rfl) ?_
    refine lv_aload_n hx hb d_LN_layLinesOf_65 rfl (lv_at hl 3 rfl) ?_
    refine z_get (ci := 6) (C := R_PA) (T := T_PA) (N := 6) (v := .int (iI (M (29 + 4 * i) 5))) hx hb hg in_PA hown hK hP (29 + 4 * i) (by omega) (pg_par _ _ _ _ _) rfl 5 (by decide) (hg _ (List.mem_append_right _ (List.mem_append_right _ (List.mem_append_left _ (List.mem_of_getElem? (i := 8) rfl))))) (fun _ h9 => h9) rfl d_LN_layLinesOf_66 ?_
    refine z_icmp_ge hx hb (tgt := 111) d_LN_layLinesOf_69 (by decide) ⟨by omega, by omega⟩ ⟨by omega, by omega⟩ (fun c_69 => ?_) (fun c_69 => ?_)
    · have he : M = MF := he
      subst he
      exact kk rp H locs ls hP hD hS (lv_sub hl [] rfl)
    · exact absurd c_69 (by omega)
  | succ f ih =>
    intro a x rp M hf hab hx0 hq hnl he H locs ls hP hD hS hl
    have e29 := eqL_29 hq i
    have e30 := eqL_30 hq i
    have ht1 : wfT M := eqL_wfT hq ht
    have hw1 : wfX M i := eqL_wfX hq hw
    have epb : pb M i = pb M0 i := by unfold pb; rw [e29]
    have hbe : M (29 + 4 * i) 5 = ((pb M0 i : Nat) : Int) := by rw [← epb]; unfold pb; have := hw1.2.1; omega
    have hb6 : pb M0 i ≤ 600 := by have := hw1.2.1; omega
    have hn : M 3 2 = ((nlM M : Nat) : Int) := by unfold nlM; omega
    refine lv_iload hx hb d_LN_layLinesOf_63 (lv_at hl 0 rfl) ?_
    refine lv_aload_n hx hb d_LN_layLinesOf_65 rfl (lv_at hl 3 rfl) ?_
    refine z_get (ci := 6) (C := R_PA) (T := T_PA) (N := 6) (v := .int (iI (M (29 + 4 * i) 5))) hx hb hg in_PA hown hK hP (29 + 4 * i) (by omega) (pg_par _ _ _ _ _) rfl 5 (by decide) (hg _ (List.mem_append_right _ (List.mem_append_right _ (List.mem_append_left _ (List.mem_of_getElem? (i := 8) rfl))))) (fun _ h9 => h9) rfl d_LN_layLinesOf_66 ?_
    refine z_icmp_ge hx hb (tgt := 111) d_LN_layLinesOf_69 (by decide) ⟨by omega, by omega⟩ ⟨by omega, by omega⟩ (fun c_69 => ?_) (fun c_69 => ?_)
    · have he : M = MF := by rw [← he]; unfold q_lines; rw [if_neg (by omega)]
      subst he
      exact kk rp H locs ls hP hD hS (lv_sub hl [] rfl)
    · refine lv_iload hx hb d_LN_layLinesOf_72 (lv_at hl 0 rfl) ?_
      refine z_iconst hx hb (z := 1) d_LN_layLinesOf_74 ?_
      refine z_iadd hx hb d_LN_layLinesOf_75 (v := ((a + 1 : Nat) : Int)) (by omega) ?_
      refine lv_aload_n hx hb d_LN_layLinesOf_76 rfl (lv_at hl 4 rfl) ?_
      refine lv_aload_n hx hb d_LN_layLinesOf_77 rfl (lv_at hl 3 rfl) ?_
      refine lv_iload hx hb d_LN_layLinesOf_78 (lv_at hl 0 rfl) ?_
      refine lv_iload hx hb d_LN_layLinesOf_80 (lv_at hl 1 rfl) ?_
      obtain ⟨rr, err⟩ : ∃ q_, q_ = q_lx M i a x := ⟨_, rfl⟩
      have err2 : rr = p_lx (M 7) (M 8) (p_tabs M i (pn M i)) (M 2 0 - M (30 + 4 * i) 1) a (pb M0 i) (pb M0 i - a) a a (0, x, 0, 0) := by rw [err]; unfold q_lx; rw [epb]
      have hr6 : rr.1 ≤ pb M0 i := by rw [err2]; exact p_lx_le _ _ _ _ hab
      obtain ⟨bx, ebx⟩ : ∃ q_, q_ = max (a + 1) rr.1 := ⟨_, rfl⟩
      refine rw_Vi (As := [.ref (ad (29 + 4 * i)), .int (iI (((a : Nat) : Int))), .int (iI (x))]) (rest := [.int (iI (((a + 1 : Nat) : Int)))]) (w' := (pg_w ad cs (some i) (rset M rr.2))) (z := ((rr.1 : Nat) : Int)) ⟨hx, hb, hml, hown, hg⟩ (err2 ▸ c_lineBehind l _ i (pn M i) a (pb M0 i) x hb6 hab hw1.1 ht1 hbe hw1.2.2.2.1 hx0) (cwV 3 hg (gt_V (List.mem_append_right _ (List.mem_append_right _ (List.mem_append_right _ (List.mem_append_right _ (List.mem_append_right _ (List.mem_append_right _ (List.mem_append_left _ (List.mem_of_getElem? (i := 39) rfl)))))))) (List.mem_append_right _ (List.mem_append_right _ (List.mem_append_right _ (List.mem_append_right _ (List.mem_append_right _ (List.mem_append_right _ (List.mem_append_right _ (List.mem_append_left _ (List.mem_of_getElem? (i := 0) rfl))))))))) (List.mem_append_left _ (List.mem_of_getElem? (i := 10) rfl)) (List.mem_append_right _ (List.mem_append_left _ (List.mem_of_getElem? (i := 6) rfl))) (List.mem_append_right _ (List.mem_append_right _ (List.mem_append_right _ (List.mem_append_right _ (List.mem_append_right _ (List.mem_append_right _ (List.mem_append_right _ (List.mem_append_left _ (List.mem_of_getElem? (i := 1) rfl)))))))))) rfl rfl rfl (by decide +kernel) ⟨Nat.le_of_ble_eq_true rfl, Nat.le_of_ble_eq_true rfl⟩) hK hP hD hS hA (va_recv hK hP (ci := 3) (q0 := 3) rfl (wl_atE (by decide) rfl)) rfl hl.1 rfl (Nat.le_of_ble_eq_true rfl) d_LN_layLinesOf_82 ⟨Nat.zero_le _, Nat.zero_le _⟩ (fun H locs hP hD hS => ?_)
      obtain ⟨M_1, eM_1⟩ : ∃ q_, q_ = rset M rr.2 := ⟨_, rfl⟩
      have hP : va_P D vwCl (pg_w ad cs (some i) M_1) H := by rw [eM_1]; exact hP
      have hD : va_D A (pg_w ad cs (some i) M_1) := by rw [eM_1]; exact hD
      have hq2 : eqL M_1 M := by rw [eM_1]; exact eqL_rset
      have e3 : M_1 3 2 = ((nlM M : Nat) : Int) := by rw [eM_1, rset_ne (by omega)]; exact hn
      refine z_mmax hx hb (hml.trans hl.1.symm) hown (hg _ (List.mem_append_right _ (List.mem_append_right _ (List.mem_append_right _ (List.mem_append_right _ (List.mem_append_right _ (List.mem_append_left _ (List.mem_of_getElem? (i := 27) rfl)))))))) (hg _ (List.mem_append_right _ (List.mem_append_right _ (List.mem_append_right _ (List.mem_append_right _ (List.mem_append_right _ (List.mem_append_left _ (List.mem_of_getElem? (i := 28) rfl)))))))) (hg _ (List.mem_append_right _ (List.mem_append_left _ (List.mem_of_getElem? (i := 17) rfl)))) (hg _ (List.mem_append_right _ (List.mem_append_right _ (List.mem_append_right _ (List.mem_append_right _ (List.mem_append_right _ (List.mem_append_left _ (List.mem_of_getElem? (i := 29) rfl)))))))) (Nat.le_of_ble_eq_true rfl) (Nat.le_of_ble_eq_true rfl) (Nat.zero_le _) (Nat.zero_le _) ⟨by omega, by omega⟩ ⟨by omega, by omega⟩ d_LN_layLinesOf_85 (v := ((bx : Nat) : Int)) (by rw [ebx]; omega) ?_
      refine lv_istore (lv' := [(6, .int (iI (((bx : Nat) : Int)))), (5, .int (iI (((a : Nat) : Int)))), (4, .int (iI (x))), (3, .int (iI (M0 (30 + 4 * i) 0))), (2, .ref (ad (29 + 4 * i))), (0, .ref (ad (3))), (1, .int (iI (((i : Nat) : Int))))]) hx hb d_LN_layLinesOf_88 hl (by decide) rfl (fun ls hl => ?_)
      refine lv_aload_n hx hb d_LN_layLinesOf_90 rfl (lv_at hl 5 rfl) ?_
      refine lv_iload_n hx hb d_LN_layLinesOf_91 rfl (lv_at hl 6 rfl) ?_
      refine lv_iload hx hb d_LN_layLinesOf_92 (lv_at hl 1 rfl) ?_
      refine lv_iload hx hb d_LN_layLinesOf_94 (lv_at hl 0 rfl) ?_
      refine lv_iload hx hb d_LN_layLinesOf_96 (lv_at hl 2 rfl) ?_
      have hw2 : wfX M_1 i := eqL_wfX hq2 hw1
      have ep2 : wfP M_1 i (pn M i) := by have := hw2.1; unfold pn at this ⊢; rw [eqL_29 hq2] at this; exact this
      refine rw_Vv (As := [.int (iI (((i : Nat) : Int))), .int (iI (((a : Nat) : Int))), .int (iI (((bx : Nat) : Int))), .int (iI (x))]) (rest := []) (w' := (pg_w ad cs (some i) (q_ad M_1 i (pn M i) a bx (pb M0 i) (nlM M) x))) ⟨hx, hb, hml, hown, hg⟩ (c_addLine l _ i (pn M i) a bx (pb M0 i) (nlM M) x (by omega) (by omega) hb6 (fun _ => by omega) ep2 (eqL_wfT hq2 ht1) hx0 (by rw [eqL_29 hq2]; exact hbe) e3 (by omega) hw2.2.2.2.1 (by have := hw2.2.2.2.2.2.2.2.1; exact this) (by have := hw2.2.2.2.2.2.2.2.2.2.2.2.2; omega)) (cwV 4 hg (gt_V (List.mem_append_right _ (List.mem_append_right _ (List.mem_append_right _ (List.mem_append_right _ (List.mem_append_right _ (List.mem_append_left _ (List.mem_of_getElem? (i := 30) rfl))))))) (List.mem_append_right _ (List.mem_append_right _ (List.mem_append_right _ (List.mem_append_right _ (List.mem_append_right _ (List.mem_append_left _ (List.mem_of_getElem? (i := 31) rfl))))))) (List.mem_append_left _ (List.mem_of_getElem? (i := 2) rfl)) (List.mem_append_right _ (List.mem_append_left _ (List.mem_of_getElem? (i := 6) rfl))) (List.mem_append_right _ (List.mem_append_right _ (List.mem_append_right _ (List.mem_append_right _ (List.mem_append_right _ (List.mem_append_left _ (List.mem_of_getElem? (i := 32) rfl)))))))) rfl rfl rfl (by decide +kernel) ⟨Nat.le_of_ble_eq_true rfl, Nat.le_of_ble_eq_true rfl⟩) hK hP hD hS hA (va_recv hK hP (ci := 3) (q0 := 3) rfl (wl_atE (by decide) rfl)) rfl hl.1 rfl (Nat.le_of_ble_eq_true rfl) d_LN_layLinesOf_98 ⟨Nat.zero_le _, Nat.zero_le _⟩ (fun H locs hP hD hS => ?_)
      obtain ⟨M_2, eM_2⟩ : ∃ q_, q_ = q_ad M_1 i (pn M i) a bx (pb M0 i) (nlM M) x := ⟨_, rfl⟩
      have hP : va_P D vwCl (pg_w ad cs (some i) M_2) H := by rw [eM_2]; exact hP
      have hD : va_D A (pg_w ad cs (some i) M_2) := by rw [eM_2]; exact hD
      refine lv_iload hx hb d_LN_layLinesOf_101 (lv_at hl 0 rfl) ?_
      refine lv_istore (lv' := [(5, .int (iI (((bx : Nat) : Int)))), (6, .int (iI (((bx : Nat) : Int)))), (4, .int (iI (x))), (3, .int (iI (M0 (30 + 4 * i) 0))), (2, .ref (ad (29 + 4 * i))), (0, .ref (ad (3))), (1, .int (iI (((i : Nat) : Int))))]) hx hb d_LN_layLinesOf_103 hl (by decide) rfl (fun ls hl => ?_)
      refine lv_iload_n hx hb d_LN_layLinesOf_105 rfl (lv_at hl 3 rfl) ?_
      refine lv_istore (lv' := [(4, .int (iI (M0 (30 + 4 * i) 0))), (5, .int (iI (((bx : Nat) : Int)))), (6, .int (iI (((bx : Nat) : Int)))), (3, .int (iI (M0 (30 + 4 * i) 0))), (2, .ref (ad (29 + 4 * i))), (0, .ref (ad (3))), (1, .int (iI (((i : Nat) : Int))))]) hx hb d_LN_layLinesOf_106 hl (by decide) rfl (fun ls hl => ?_)
      refine lv_goto (tgt := 63) hx hb d_LN_layLinesOf_108 (by decide) ?_
      have hF : q_lines i f bx (M0 (30 + 4 * i) 0) M_2 = MF := by rw [← he]; conv => rhs; unfold q_lines; rw [if_pos (by omega), ← err, ← ebx, epb, e30, ← eM_1, ← eM_2]
      have hq3 : eqL M_2 M0 := eqL_tr (by rw [eM_2]; exact q_ad_eqL _ _ _ _ _ _ _ _) (eqL_tr hq2 hq)
      have hn3 : M_2 3 2 = ((nlM M : Nat) : Int) + 1 := by rw [eM_2]; exact q_ad_n _ _ _ _ _ _ _ _
      exact ih bx (M0 (30 + 4 * i) 0) (some i) M_2 (by omega) (by omega) (by have := hw.2.2.1; omega) hq3 (by omega) hF H locs ls hP hD hS (lv_sub hl [1, 0, 3, 4, 5, 6] rfl)
set_option maxHeartbeats 4000000 in
set_option maxRecDepth 100000 in
/-- Lines.layLinesOf -/
theorem c_layLinesOf (l : Launch) {D : va_G} {ad : Nat → Nat} {cs : pg_C} {rp : Option Nat} {M : Nat → Nat → Int} (sz : Nat) (i : Nat) (hw : wfX M i) (ht : wfT M) (hnl : 0 ≤ M 3 2 ∧ M 3 2 ≤ M (29 + 4 * i) 4 + ((i : Nat) : Int)) : Met l y_LN_layLinesOf ws_LN_layLinesOf ({ frames := 6, cells := 0, slots := 0, locals := 141 } : Room) (va_Pc [.ref (ad (3)), .int (iI (((i : Nat) : Int)))] (rw_B D vwCl (pg_tys cs) (pg_w ad cs rp M) sz)) (va_Qv (fun _ : Option Nat => True) (rw_EX D vwCl (pg_tys cs) (pg_w ad cs rp M) (fun u => pg_w ad cs u (q_par M i)) sz) (va_A (pg_w ad cs rp M) sz)) 0 0 (va_A (pg_w ad cs rp M) sz) := by
  refine Met.ofW (cc := b_LN_layLinesOf) (maxL := 7) (ret := none) (by decide) rfl ?_
  intro p e s m args below meth c s₁ B hml hv
  obtain ⟨rfl, hsz, hP, hK, hD0⟩ := hv
  have hx := B.exec
  have hb := B.bytes
  have hr := B.returns
  have hts := atoms_spec (ws := ws_LN_layLinesOf) B.pre
  have hg : ∀ w ∈ gt, w.before _ s = true := fun w h => hts w (List.mem_cons_of_mem _ h)
  have hown : s.vm.findClass R_LN = some m.cls := findClass_of_methodNamed B.named
  have hlocks := B.notSynchronized
  subst hsz
  have hD := hD0.self (sz := s.heap.size)
  have hA : ∀ q : Nat, s.heap.size ≤ q → va_A (pg_w ad cs rp M) s.heap.size q := fun q h => Or.inr h
  have hS : va_S (va_A (pg_w ad cs rp M) s.heap.size) s.heap s.heap [] := va_S.rf
  have hl := lv_entry ([.ref (ad (3)), .int (iI (((i : Nat) : Int)))]) (n := 7) (Nat.le_of_ble_eq_true rfl)
  rw [lg_entry_eq]
  generalize (lg_sl ([.ref (ad (3)), .int (iI (((i : Nat) : Int)))]) ++ List.replicate (7 - (lg_sl ([.ref (ad (3)), .int (iI (((i : Nat) : Int)))])).length) Slot.unset).toArray = ls at hl ⊢
  have hl : lv_has ls 7 [(0, .ref (ad (3))), (1, .int (iI (((i : Nat) : Int))))] := hl
  have hi : i < 30 := hw.1.1
  have hfb := hw.2.1
  have h0 := hw.2.2.1
  have h2 := hw.2.2.2.2.1
  have epf : M (29 + 4 * i) 4 = ((pf M i : Nat) : Int) := by unfold pf; omega
  have epb : M (29 + 4 * i) 5 = ((pb M i : Nat) : Int) := by unfold pb; omega
  have hn : M 3 2 = ((nlM M : Nat) : Int) := by unfold nlM; omega
  obtain ⟨xx, exx⟩ : ∃ q_, q_ = q_x0 M i := ⟨_, rfl⟩
  have hxx : 0 ≤ xx ∧ xx ≤ 10000 := by rw [exx]; unfold q_x0; omega
  refine lv_aload_n hx hb d_LN_layLinesOf_0 rfl (lv_at hl 0 rfl) ?_
  refine z_get (ci := 3) (C := R_LN) (T := T_LN) (N := 6) (v := .ref (ad (1))) hx hb hg in_LN hown hK hP (3) (by decide) rfl rfl 3 (by decide) (hg _ (List.mem_append_right _ (List.mem_append_right _ (List.mem_append_right _ (List.mem_append_right _ (List.mem_append_left _ (List.mem_of_getElem? (i := 11) rfl))))))) (fun _ h9 => h9) rfl d_LN_layLinesOf_1 ?_
  refine z_get (ci := 1) (C := R_TX) (T := T_TX) (N := 6) (v := .ref (ad (6))) hx hb hg in_TX hown hK hP (1) (by decide) rfl rfl 0 (by decide) (hg _ (List.mem_append_right _ (List.mem_append_right _ (List.mem_append_left _ (List.mem_of_getElem? (i := 17) rfl))))) (fun _ h9 => h9) rfl d_LN_layLinesOf_4 ?_
  refine lv_iload_n hx hb d_LN_layLinesOf_7 rfl (lv_at hl 1 rfl) ?_
  refine z_aald hx hb hK hP (6) 2 (by decide) (fun _ => rfl) rfl rfl (i) rfl (by omega) (by decide) d_LN_layLinesOf_8 ?_
  refine lv_astore_n (lv' := [(2, .ref (ad (29 + 4 * i))), (0, .ref (ad (3))), (1, .int (iI (((i : Nat) : Int))))]) hx hb d_LN_layLinesOf_9 rfl hl (by decide) rfl (fun ls hl => ?_)
  refine lv_aload_n hx hb d_LN_layLinesOf_10 rfl (lv_at hl 0 rfl) ?_
  refine z_get (ci := 6) (C := R_PA) (T := T_PA) (N := 6) (v := .ref (ad (30 + 4 * i))) hx hb hg in_PA hown hK hP (29 + 4 * i) (by omega) (pg_par _ _ _ _ _) rfl 0 (by decide) (hg _ (List.mem_append_right _ (List.mem_append_left _ (List.mem_of_getElem? (i := 38) rfl)))) (fun _ h9 => h9) rfl d_LN_layLinesOf_11 ?_
  refine z_iconst hx hb (z := 0) d_LN_layLinesOf_14 ?_
  refine z_iald hx hb hK hP (30 + 4 * i) 0 (by omega) (fun r => pg_shp _ _ _ _ r) rfl (0) rfl (by decide) (by decide) d_LN_layLinesOf_15 ?_
  refine lv_istore_n (lv' := [(3, .int (iI (M (30 + 4 * i) (0)))), (2, .ref (ad (29 + 4 * i))), (0, .ref (ad (3))), (1, .int (iI (((i : Nat) : Int))))]) hx hb d_LN_layLinesOf_16 rfl hl (by decide) rfl (fun ls hl => ?_)
  refine z_iconst hx hb (z := 0) d_LN_layLinesOf_17 ?_
  refine lv_iload_n hx hb d_LN_layLinesOf_18 rfl (lv_at hl 0 rfl) ?_
  refine lv_aload_n hx hb d_LN_layLinesOf_19 rfl (lv_at hl 1 rfl) ?_
  refine z_get (ci := 6) (C := R_PA) (T := T_PA) (N := 6) (v := .ref (ad (30 + 4 * i))) hx hb hg in_PA hown hK hP (29 + 4 * i) (by omega) (pg_par _ _ _ _ _) rfl 0 (by decide) (hg _ (List.mem_append_right _ (List.mem_append_left _ (List.mem_of_getElem? (i := 38) rfl)))) (fun _ h9 => h9) rfl d_LN_layLinesOf_20 ?_
  refine z_iconst hx hb (z := 2) d_LN_layLinesOf_23 ?_
  refine z_iald hx hb hK hP (30 + 4 * i) 0 (by omega) (fun r => pg_shp _ _ _ _ r) rfl (2) rfl (by decide) (by decide) d_LN_layLinesOf_24 ?_
  refine z_iadd hx hb d_LN_layLinesOf_25 (v := (M (30 + 4 * i) (0) + M (30 + 4 * i) (2))) rfl ?_
  refine z_mmax hx hb (hml.trans hl.1.symm) hown (hg _ (List.mem_append_right _ (List.mem_append_right _ (List.mem_append_right _ (List.mem_append_right _ (List.mem_append_right _ (List.mem_append_left _ (List.mem_of_getElem? (i := 27) rfl)))))))) (hg _ (List.mem_append_right _ (List.mem_append_right _ (List.mem_append_right _ (List.mem_append_right _ (List.mem_append_right _ (List.mem_append_left _ (List.mem_of_getElem? (i := 28) rfl)))))))) (hg _ (List.mem_append_right _ (List.mem_append_left _ (List.mem_of_getElem? (i := 17) rfl)))) (hg _ (List.mem_append_right _ (List.mem_append_right _ (List.mem_append_right _ (List.mem_append_right _ (List.mem_append_right _ (List.mem_append_left _ (List.mem_of_getElem? (i := 29) rfl)))))))) (Nat.le_of_ble_eq_true rfl) (Nat.le_of_ble_eq_true rfl) (Nat.zero_le _) (Nat.zero_le _) ⟨by decide, by decide⟩ ⟨by omega, by omega⟩ d_LN_layLinesOf_26 (v := xx) (by rw [exx]; rfl) ?_
  refine lv_istore (lv' := [(4, .int (iI (xx))), (3, .int (iI (M (30 + 4 * i) (0)))), (2, .ref (ad (29 + 4 * i))), (0, .ref (ad (3))), (1, .int (iI (((i : Nat) : Int))))]) hx hb d_LN_layLinesOf_29 hl (by decide) rfl (fun ls hl => ?_)
  refine lv_aload_n hx hb d_LN_layLinesOf_31 rfl (lv_at hl 2 rfl) ?_
  refine z_get (ci := 6) (C := R_PA) (T := T_PA) (N := 6) (v := .int (iI (M (29 + 4 * i) 4))) hx hb hg in_PA hown hK hP (29 + 4 * i) (by omega) (pg_par _ _ _ _ _) rfl 4 (by decide) (hg _ (List.mem_append_right _ (List.mem_append_right _ (List.mem_append_left _ (List.mem_of_getElem? (i := 6) rfl))))) (fun _ h9 => h9) rfl d_LN_layLinesOf_32 ?_
  refine lv_aload_n hx hb d_LN_layLinesOf_35 rfl (lv_at hl 2 rfl) ?_
  refine z_get (ci := 6) (C := R_PA) (T := T_PA) (N := 6) (v := .int (iI (M (29 + 4 * i) 5))) hx hb hg in_PA hown hK hP (29 + 4 * i) (by omega) (pg_par _ _ _ _ _) rfl 5 (by decide) (hg _ (List.mem_append_right _ (List.mem_append_right _ (List.mem_append_left _ (List.mem_of_getElem? (i := 8) rfl))))) (fun _ h9 => h9) rfl d_LN_layLinesOf_36 ?_
  refine z_icmp_lt hx hb (tgt := 57) d_LN_layLinesOf_39 (by decide) ⟨by omega, by omega⟩ ⟨by omega, by omega⟩ (fun c_39 => ?_) (fun c_39 => ?_)
  · refine lv_aload_n hx hb d_LN_layLinesOf_57 rfl (lv_at hl 2 rfl) ?_
    refine z_get (ci := 6) (C := R_PA) (T := T_PA) (N := 6) (v := .int (iI (M (29 + 4 * i) 4))) hx hb hg in_PA hown hK hP (29 + 4 * i) (by omega) (pg_par _ _ _ _ _) rfl 4 (by decide) (hg _ (List.mem_append_right _ (List.mem_append_right _ (List.mem_append_left _ (List.mem_of_getElem? (i := 6) rfl))))) (fun _ h9 => h9) rfl d_LN_layLinesOf_58 ?_
    refine lv_istore (lv' := [(5, .int (iI (M (29 + 4 * i) 4))), (4, .int (iI (xx))), (3, .int (iI (M (30 + 4 * i) (0)))), (2, .ref (ad (29 + 4 * i))), (0, .ref (ad (3))), (1, .int (iI (((i : Nat) : Int))))]) hx hb d_LN_layLinesOf_61 hl (by decide) rfl (fun ls hl => ?_)
    have hl : lv_has ls 7 [(5, .int (iI (((pf M i : Nat) : Int)))), (4, .int (iI (xx))), (3, .int (iI (M (30 + 4 * i) 0))), (2, .ref (ad (29 + 4 * i))), (0, .ref (ad (3))), (1, .int (iI (((i : Nat) : Int))))] := by rw [epf] at hl; exact lv_sub hl [0, 1, 2, 3, 4, 5] rfl
    refine lp_layLinesOf hx hb hml hg hown hK hA i hw ht (q_par M i) (fun u H locs ls hP hD hS hl => ?_) (pb M i - pf M i) (pf M i) xx rp M (by omega) (by omega) hxx eqL_rf (by omega) (by unfold q_par; rw [if_neg (by omega), ← exx]) s.heap [] ls hP hD hS hl
    have hM : q_par M i = q_par M i := rfl
    have eW : pg_w ad cs u (q_par M i) = pg_w ad cs u (q_par M i) := congrArg (pg_w ad cs u) hM
    have hP := Eq.mp (congrArg (fun q => va_P D vwCl q _) eW) hP
    have hD := Eq.mp (congrArg (va_D _) eW) hD
    exact W.vret hx hb hr (fun t ht hW => ⟨⟨u, rfl, trivial, by rw [ht]; exact hP, va_K.moved hW.alike hK, hD⟩, hS.F ht⟩) hS.2.2 d_LN_layLinesOf_111
  · refine lv_aload_n hx hb d_LN_layLinesOf_42 rfl (lv_at hl 3 rfl) ?_
    refine lv_iload_n hx hb d_LN_layLinesOf_43 rfl (lv_at hl 4 rfl) ?_
    refine lv_aload_n hx hb d_LN_layLinesOf_44 rfl (lv_at hl 2 rfl) ?_
    refine z_get (ci := 6) (C := R_PA) (T := T_PA) (N := 6) (v := .int (iI (M (29 + 4 * i) 4))) hx hb hg in_PA hown hK hP (29 + 4 * i) (by omega) (pg_par _ _ _ _ _) rfl 4 (by decide) (hg _ (List.mem_append_right _ (List.mem_append_right _ (List.mem_append_left _ (List.mem_of_getElem? (i := 6) rfl))))) (fun _ h9 => h9) rfl d_LN_layLinesOf_45 ?_
    refine lv_aload_n hx hb d_LN_layLinesOf_48 rfl (lv_at hl 2 rfl) ?_
    refine z_get (ci := 6) (C := R_PA) (T := T_PA) (N := 6) (v := .int (iI (M (29 + 4 * i) 4))) hx hb hg in_PA hown hK hP (29 + 4 * i) (by omega) (pg_par _ _ _ _ _) rfl 4 (by decide) (hg _ (List.mem_append_right _ (List.mem_append_right _ (List.mem_append_left _ (List.mem_of_getElem? (i := 6) rfl))))) (fun _ h9 => h9) rfl d_LN_layLinesOf_49 ?_
    refine lv_iload hx hb d_LN_layLinesOf_52 (lv_at hl 0 rfl) ?_
    refine rw_Vv (As := [.int (iI (((i : Nat) : Int))), .int (iI (M (29 + 4 * i) 4)), .int (iI (M (29 + 4 * i) 4)), .int (iI (xx))]) (rest := []) (w' := (pg_w ad cs rp (q_ad M i (pn M i) (pf M i) (pf M i) (pb M i) (nlM M) xx))) ⟨hx, hb, hml, hown, hg⟩ (epf ▸ c_addLine l _ i (pn M i) (pf M i) (pf M i) (pb M i) (nlM M) xx (by omega) (by omega) (by omega) (fun _ => by omega) hw.1 ht hxx epb hn (by omega) hw.2.2.2.1 (by have := hw.2.2.2.2.2.2.2.1; exact this) (by have := hw.2.2.2.2.2.2.2.2.2.2.2.2; omega)) (cwV 4 hg (gt_V (List.mem_append_right _ (List.mem_append_right _ (List.mem_append_right _ (List.mem_append_right _ (List.mem_append_right _ (List.mem_append_left _ (List.mem_of_getElem? (i := 30) rfl))))))) (List.mem_append_right _ (List.mem_append_right _ (List.mem_append_right _ (List.mem_append_right _ (List.mem_append_right _ (List.mem_append_left _ (List.mem_of_getElem? (i := 31) rfl))))))) (List.mem_append_left _ (List.mem_of_getElem? (i := 2) rfl)) (List.mem_append_right _ (List.mem_append_left _ (List.mem_of_getElem? (i := 6) rfl))) (List.mem_append_right _ (List.mem_append_right _ (List.mem_append_right _ (List.mem_append_right _ (List.mem_append_right _ (List.mem_append_left _ (List.mem_of_getElem? (i := 32) rfl)))))))) rfl rfl rfl (by decide +kernel) ⟨Nat.le_of_ble_eq_true rfl, Nat.le_of_ble_eq_true rfl⟩) hK hP hD hS hA (va_recv hK hP (ci := 3) (q0 := 3) rfl (wl_atE (by decide) rfl)) rfl hl.1 rfl (Nat.le_of_ble_eq_true rfl) d_LN_layLinesOf_54 ⟨Nat.zero_le _, Nat.zero_le _⟩ (fun H locs hP hD hS => ?_)
    obtain ⟨M_1, eM_1⟩ : ∃ q_, q_ = q_ad M i (pn M i) (pf M i) (pf M i) (pb M i) (nlM M) xx := ⟨_, rfl⟩
    have hP : va_P D vwCl (pg_w ad cs rp M_1) H := by rw [eM_1]; exact hP
    have hD : va_D (va_A (pg_w ad cs rp M) s.heap.size) (pg_w ad cs rp M_1) := by rw [eM_1]; exact hD
    refine lv_aload_n hx hb d_LN_layLinesOf_57 rfl (lv_at hl 2 rfl) ?_
    refine z_get (ci := 6) (C := R_PA) (T := T_PA) (N := 6) (v := .int (iI (M_1 (29 + 4 * i) 4))) hx hb hg in_PA hown hK hP (29 + 4 * i) (by omega) (pg_par _ _ _ _ _) rfl 4 (by decide) (hg _ (List.mem_append_right _ (List.mem_append_right _ (List.mem_append_left _ (List.mem_of_getElem? (i := 6) rfl))))) (fun _ h9 => h9) rfl d_LN_layLinesOf_58 ?_
    refine lv_istore (lv' := [(5, .int (iI (M_1 (29 + 4 * i) 4))), (4, .int (iI (xx))), (3, .int (iI (M (30 + 4 * i) (0)))), (2, .ref (ad (29 + 4 * i))), (0, .ref (ad (3))), (1, .int (iI (((i : Nat) : Int))))]) hx hb d_LN_layLinesOf_61 hl (by decide) rfl (fun ls hl => ?_)
    have q29 : M_1 (29 + 4 * i) = M (29 + 4 * i) := by rw [eM_1]; exact eqL_29 (q_ad_eqL _ _ _ _ _ _ _ _) i
    have q4 : M_1 (29 + 4 * i) 4 = M (29 + 4 * i) 4 := by rw [q29]
    have q5 : M_1 (29 + 4 * i) 5 = M (29 + 4 * i) 5 := by rw [q29]
    refine lv_iload hx hb d_LN_layLinesOf_63 (lv_at hl 0 rfl) ?_
    refine lv_aload_n hx hb d_LN_layLinesOf_65 rfl (lv_at hl 3 rfl) ?_
    refine z_get (ci := 6) (C := R_PA) (T := T_PA) (N := 6) (v := .int (iI (M_1 (29 + 4 * i) 5))) hx hb hg in_PA hown hK hP (29 + 4 * i) (by omega) (pg_par _ _ _ _ _) rfl 5 (by decide) (hg _ (List.mem_append_right _ (List.mem_append_right _ (List.mem_append_left _ (List.mem_of_getElem? (i := 8) rfl))))) (fun _ h9 => h9) rfl d_LN_layLinesOf_66 ?_
    refine z_icmp_ge hx hb (tgt := 111) d_LN_layLinesOf_69 (by decide) ⟨by omega, by omega⟩ ⟨by omega, by omega⟩ (fun c_69 => ?_) (fun c_69 => ?_)
    · have hM : M_1 = q_par M i := by rw [eM_1]; unfold q_par; rw [if_pos (by omega), ← exx]
      have eW : pg_w ad cs rp (M_1) = pg_w ad cs rp (q_par M i) := congrArg (pg_w ad cs rp) hM
      have hP := Eq.mp (congrArg (fun q => va_P D vwCl q _) eW) hP
      have hD := Eq.mp (congrArg (va_D _) eW) hD
      exact W.vret hx hb hr (fun t ht hW => ⟨⟨rp, rfl, trivial, by rw [ht]; exact hP, va_K.moved hW.alike hK, hD⟩, hS.F ht⟩) hS.2.2 d_LN_layLinesOf_111
    · exact absurd c_69 (by omega)
set_option maxHeartbeats 4000000 in
set_option maxRecDepth 100000 in
theorem lp_layAll {p : Program} {l : Launch} {e : Env} {s : State} {m : MethodId} {args : Array Value} {below : List Frame} {meth : Method} {c : Code} {Q : State → Prop} {A : Nat → Prop} {H0 : Heap} {D : va_G} {ad : Nat → Nat} {cs : pg_C}  (hx : p.tables.exec = Jvm.exec) (hb : c.code = b_LN_layAll) (hml : c.maxLocals = 2) (hg : ∀ w ∈ gt, w.before args s = true) (hown : s.vm.findClass R_LN = some m.cls) (hK : va_K D vwCl (pg_tys cs) s) (hA : ∀ q, H0.size ≤ q → A q) {M0 : Nat → Nat → Int} (np : Nat) (hw : ∀ i, i < np → wfX M0 i) (hT : wfT M0) (hp1 : M0 1 4 = ((np : Nat) : Int)) (hp30 : np ≤ 30) (hch : ∀ i, i + 1 < np → M0 (29 + 4 * (i + 1)) 4 = M0 (29 + 4 * i) 5) (MF : Nat → Nat → Int) (kk : ∀ (u : Option Nat) (H : Heap) (locs : List Loc) (ls : Array Slot), va_P D vwCl (pg_w ad cs u MF) H → va_D A (pg_w ad cs u MF) → va_S A H0 H locs → lv_has ls 2 [] → W p l e ({ frames := 7, cells := 0, slots := 0, locals := 167 } : Room) s m args below meth c H locs 0 0 Q (F0 m 29 ls [])) : ∀ (f i : Nat) (rp : Option Nat) (M : Nat → Nat → Int), i + f = np → eqL M M0 → 0 ≤ M 3 2 ∧ (i < np → M 3 2 ≤ M0 (29 + 4 * i) 4 + ((i : Nat) : Int)) → q_all f i M = MF → ∀ (H : Heap) (locs : List Loc) (ls : Array Slot), va_P D vwCl (pg_w ad cs rp M) H → va_D A (pg_w ad cs rp M) → va_S A H0 H locs → lv_has ls 2 [(1, .int (iI (((i : Nat) : Int)))), (0, .ref (ad (3)))] → W p l e ({ frames := 7, cells := 0, slots := 0, locals := 167 } : Room) s m args below meth c H locs 0 0 Q (F0 m 7 ls []) := by
  intro f
  induction f with
  | zero =>
    intro i rp M hf hq hnl he H locs ls hP hD hS hl
    have e1 : M 1 = M0 1 := hq 1 (by omega) (by omega) (by omega)
    have h14 : M 1 4 = ((np : Nat) : Int) := by rw [e1]; exact hp1
    refine lv_iload_n hx hb d_LN_layAll_7 rfl (lv_at hl 0 rfl) ?_
    refine lv_aload_n hx hb d_LN_layAll_8 rfl (lv_at hl 1 rfl) ?_
    refine z_get (ci := 3) (C := R_LN) (T := T_LN) (N := 6) (v := .ref (ad (1))) hx hb hg in_LN hown hK hP (3) (by decide) rfl rfl 3 (by decide) (hg _ (List.mem_append_right _ (List.mem_append_right _ (List.mem_append_right _ (List.mem_append_right _ (List.mem_append_left _ (List.mem_of_getElem? (i := 11) rfl))))))) (fun _ h9 => h9) rfl d_LN_layAll_9 ?_
    refine z_get (ci := 1) (C := R_TX) (T := T_TX) (N := 6) (v := .int (iI (M (1) 4))) hx hb hg in_TX hown hK hP (1) (by decide) rfl rfl 4 (by decide) (hg _ (List.mem_append_right _ (List.mem_append_right _ (List.mem_append_left _ (List.mem_of_getElem? (i := 29) rfl))))) (fun _ h9 => h9) rfl d_LN_layAll_12 ?_
    refine z_icmp_ge hx hb (tgt := 29) d_LN_layAll_15 (by decide) ⟨by omega, by omega⟩ ⟨by omega, by omega⟩ (fun c_15 => ?_) (fun c_15 => ?_)
    · have he : M = MF := he
      subst he
      exact kk rp H locs ls hP hD hS (lv_sub hl [] rfl)
    · exact absurd c_15 (by omega)
  | succ f ih =>
    intro i rp M hf hq hnl he H locs ls hP hD hS hl
    have e1 : M 1 = M0 1 := hq 1 (by omega) (by omega) (by omega)
    have h14 : M 1 4 = ((np : Nat) : Int) := by rw [e1]; exact hp1
    refine lv_iload_n hx hb d_LN_layAll_7 rfl (lv_at hl 0 rfl) ?_
    refine lv_aload_n hx hb d_LN_layAll_8 rfl (lv_at hl 1 rfl) ?_
    refine z_get (ci := 3) (C := R_LN) (T := T_LN) (N := 6) (v := .ref (ad (1))) hx hb hg in_LN hown hK hP (3) (by decide) rfl rfl 3 (by decide) (hg _ (List.mem_append_right _ (List.mem_append_right _ (List.mem_append_right _ (List.mem_append_right _ (List.mem_append_left _ (List.mem_of_getElem? (i := 11) rfl))))))) (fun _ h9 => h9) rfl d_LN_layAll_9 ?_
    refine z_get (ci := 1) (C := R_TX) (T := T_TX) (N := 6) (v := .int (iI (M (1) 4))) hx hb hg in_TX hown hK hP (1) (by decide) rfl rfl 4 (by decide) (hg _ (List.mem_append_right _ (List.mem_append_right _ (List.mem_append_left _ (List.mem_of_getElem? (i := 29) rfl))))) (fun _ h9 => h9) rfl d_LN_layAll_12 ?_
    refine z_icmp_ge hx hb (tgt := 29) d_LN_layAll_15 (by decide) ⟨by omega, by omega⟩ ⟨by omega, by omega⟩ (fun c_15 => ?_) (fun c_15 => ?_)
    · exact absurd c_15 (by omega)
    · refine lv_aload_n hx hb d_LN_layAll_18 rfl (lv_at hl 1 rfl) ?_
      refine lv_iload_n hx hb d_LN_layAll_19 rfl (lv_at hl 0 rfl) ?_
      have hwi : wfX M i := eqL_wfX hq (hw i (by omega))
      have hni := hnl.2 (by omega)
      refine rw_VvX (As := [.int (iI (((i : Nat) : Int)))]) (rest := []) (w' := fun u => pg_w ad cs u (q_par M i)) ⟨hx, hb, hml, hown, hg⟩ (c_layLinesOf l _ i hwi (eqL_wfT hq hT) (by rw [eqL_29 hq]; omega)) (cwV 1 hg (gt_V (List.mem_append_right _ (List.mem_append_right _ (List.mem_append_right _ (List.mem_append_right _ (List.mem_append_right _ (List.mem_append_left _ (List.mem_of_getElem? (i := 24) rfl))))))) (List.mem_append_right _ (List.mem_append_right _ (List.mem_append_right _ (List.mem_append_right _ (List.mem_append_right _ (List.mem_append_left _ (List.mem_of_getElem? (i := 25) rfl))))))) (List.mem_append_left _ (List.mem_of_getElem? (i := 1) rfl)) (List.mem_append_right _ (List.mem_append_left _ (List.mem_of_getElem? (i := 6) rfl))) (List.mem_append_right _ (List.mem_append_right _ (List.mem_append_right _ (List.mem_append_right _ (List.mem_append_right _ (List.mem_append_left _ (List.mem_of_getElem? (i := 26) rfl)))))))) rfl rfl rfl (by decide +kernel) ⟨Nat.le_of_ble_eq_true rfl, Nat.le_of_ble_eq_true rfl⟩) hK hP hD hS hA (va_recv hK hP (ci := 3) (q0 := 3) rfl (wl_atE (by decide) rfl)) rfl hl.1 rfl (Nat.le_of_ble_eq_true rfl) d_LN_layAll_20 ⟨Nat.zero_le _, Nat.zero_le _⟩ (fun u_1 H locs hP hD hS => ?_)
      obtain ⟨M_2, eM_2⟩ : ∃ q_, q_ = q_par M i := ⟨_, rfl⟩
      have hP : va_P D vwCl (pg_w ad cs u_1 M_2) H := by rw [eM_2]; exact hP
      have hD : va_D A (pg_w ad cs u_1 M_2) := by rw [eM_2]; exact hD
      refine z_iinc (v := ((i + 1 : Nat) : Int)) (lv' := [(1, .int (iI (((i + 1 : Nat) : Int)))), (0, .ref (ad (3)))]) hx hb d_LN_layAll_23 hl (k := 0) rfl (by omega) (by decide) rfl (fun ls hl => ?_)
      refine lv_goto (tgt := 7) hx hb d_LN_layAll_26 (by decide) ?_
      have hb := q_par_n M i hwi (by rw [eqL_29 hq]; omega)
      rw [← eM_2, eqL_29 hq] at hb
      exact ih (i + 1) u_1 M_2 (by omega) (eqL_tr (by rw [eM_2]; exact q_par_eqL _ _) hq) ⟨hb.1, fun h => by rw [hch i h]; omega⟩ (by rw [← he, eM_2]; rfl) H locs ls hP hD hS (lv_sub hl [0, 1] rfl)
set_option maxHeartbeats 4000000 in
set_option maxRecDepth 100000 in
/-- Lines.layAll -/
theorem c_layAll (l : Launch) {D : va_G} {ad : Nat → Nat} {cs : pg_C} {rp : Option Nat} {M : Nat → Nat → Int} (sz : Nat) (np : Nat) (hw : ∀ i, i < np → wfX M i) (hT : wfT M) (hp1 : M 1 4 = ((np : Nat) : Int)) (hp30 : np ≤ 30) (hch : ∀ i, i + 1 < np → M (29 + 4 * (i + 1)) 4 = M (29 + 4 * i) 5) (hf0 : 0 < np → M 29 4 = 0) : Met l y_LN_layAll ws_LN_layAll ({ frames := 7, cells := 0, slots := 0, locals := 167 } : Room) (va_Pc [.ref (ad (3))] (rw_B D vwCl (pg_tys cs) (pg_w ad cs rp M) sz)) (va_Qv (fun _ : Option Nat => True) (rw_EX D vwCl (pg_tys cs) (pg_w ad cs rp M) (fun u => pg_w ad cs u (q_all np 0 (mset M 3 2 0))) sz) (va_A (pg_w ad cs rp M) sz)) 0 0 (va_A (pg_w ad cs rp M) sz) := by
  refine Met.ofW (cc := b_LN_layAll) (maxL := 2) (ret := none) (by decide) rfl ?_
  intro p e s m args below meth c s₁ B hml hv
  obtain ⟨rfl, hsz, hP, hK, hD0⟩ := hv
  have hx := B.exec
  have hb := B.bytes
  have hr := B.returns
  have hts := atoms_spec (ws := ws_LN_layAll) B.pre
  have hg : ∀ w ∈ gt, w.before _ s = true := fun w h => hts w (List.mem_cons_of_mem _ h)
  have hown : s.vm.findClass R_LN = some m.cls := findClass_of_methodNamed B.named
  have hlocks := B.notSynchronized
  subst hsz
  have hD := hD0.self (sz := s.heap.size)
  have hA : ∀ q : Nat, s.heap.size ≤ q → va_A (pg_w ad cs rp M) s.heap.size q := fun q h => Or.inr h
  have hS : va_S (va_A (pg_w ad cs rp M) s.heap.size) s.heap s.heap [] := va_S.rf
  have hl := lv_entry ([.ref (ad (3))]) (n := 2) (Nat.le_of_ble_eq_true rfl)
  rw [lg_entry_eq]
  generalize (lg_sl ([.ref (ad (3))]) ++ List.replicate (2 - (lg_sl ([.ref (ad (3))])).length) Slot.unset).toArray = ls at hl ⊢
  have hl : lv_has ls 2 [(0, .ref (ad (3)))] := hl
  refine lv_aload_n hx hb d_LN_layAll_0 rfl (lv_at hl 0 rfl) ?_
  refine z_iconst hx hb (z := 0) d_LN_layAll_1 ?_
  refine z_put (ci := 3) (C := R_LN) (T := T_LN) (N := 6) (v := .int (iI (0))) (ty := .int) (ce' := (pg_ce ad cs rp)) (r := va_up (M (3)) 2 (0)) hx hb hg in_LN ty_LN tk_LN nm_LN hown hK hP hD hS (3) (by decide) rfl rfl 2 (by decide) (hg _ (List.mem_append_right _ (List.mem_append_right _ (List.mem_append_right _ (List.mem_append_right _ (List.mem_append_left _ (List.mem_of_getElem? (i := 8) rfl))))))) (fun _ h9 => h9) rfl (by decide +kernel) rfl rfl (Nat.le_of_ble_eq_true rfl) (fun _ _ => rfl) rfl d_LN_layAll_2 (fun H locs hP hD hS => ?_)
  obtain ⟨M_1, eM_1⟩ : ∃ q_, q_ = mset M (3) (2) (0) := ⟨_, rfl⟩
  have hP : va_P D vwCl (pg_w ad cs rp M_1) H := by rw [eM_1]; exact hP
  have hD : va_D (va_A (pg_w ad cs rp M) s.heap.size) (pg_w ad cs rp M_1) := by rw [eM_1]; exact hD
  refine z_iconst hx hb (z := 0) d_LN_layAll_5 ?_
  refine lv_istore_n (lv' := [(1, .int (iI (0))), (0, .ref (ad (3)))]) hx hb d_LN_layAll_6 rfl hl (by decide) rfl (fun ls hl => ?_)
  have h32 : M_1 3 2 = 0 := by rw [eM_1]; exact mset_same _ _ _ _
  refine lp_layAll hx hb hml hg hown hK hA np hw hT hp1 hp30 hch (q_all np 0 (mset M 3 2 0)) (fun u H locs ls hP hD hS hl => ?_) np 0 rp M_1 (by omega) (by rw [eM_1]; exact eqL_n) ⟨by omega, fun h => by rw [h32, show 29 + 4 * 0 = 29 by omega, hf0 h]; omega⟩ (by rw [eM_1]) H locs ls hP hD hS (lv_sub hl [0, 1] rfl)
  have hM : q_all np 0 (mset M 3 2 0) = q_all np 0 (mset M 3 2 0) := rfl
  have eW : pg_w ad cs u (q_all np 0 (mset M 3 2 0)) = pg_w ad cs u (q_all np 0 (mset M 3 2 0)) := congrArg (pg_w ad cs u) hM
  have hP := Eq.mp (congrArg (fun q => va_P D vwCl q _) eW) hP
  have hD := Eq.mp (congrArg (va_D _) eW) hD
  exact W.vret hx hb hr (fun t ht hW => ⟨⟨u, rfl, trivial, by rw [ht]; exact hP, va_K.moved hW.alike hK, hD⟩, hS.F ht⟩) hS.2.2 d_LN_layAll_29
end
