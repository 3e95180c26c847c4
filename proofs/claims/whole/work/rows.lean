section
-- ===== PART A: goes FIRST, ahead of the names: the tables' words, and 'selects' of the private methods out of them =====
/-- a private method of a class that the tables say can be made, by its rows of tables_1 -/
def lw_okq (q : MethodName × Nat) : Prop := (q.1.cls ≠ "java/lang/invoke/MethodHandle" ∧ q.1.cls ≠ "java/lang/invoke/VarHandle") ∧ Cond.instantiable q.1.cls q.2 ∈ tables_1 ∧ Cond.privateMethod q.1 ∈ tables_1 ∧ Cond.instanceMethod q.1 ∈ tables_1
theorem lw_p0 : lw_okq (⟨"WireField", "forgetHistory", "()V"⟩, 13) := ⟨⟨by decide +kernel, by decide +kernel⟩, List.mem_of_getElem? (i := 24) (by decide +kernel), List.mem_of_getElem? (i := 235) (by decide +kernel), List.mem_of_getElem? (i := 236) (by decide +kernel)⟩
theorem lw_p1 : lw_okq (⟨"WireField", "putTurned", "(IIIIIII)V"⟩, 13) := ⟨⟨by decide +kernel, by decide +kernel⟩, List.mem_of_getElem? (i := 24) (by decide +kernel), List.mem_of_getElem? (i := 261) (by decide +kernel), List.mem_of_getElem? (i := 262) (by decide +kernel)⟩
theorem lw_p2 : lw_okq (⟨"WireField", "makeGeneration", "()V"⟩, 13) := ⟨⟨by decide +kernel, by decide +kernel⟩, List.mem_of_getElem? (i := 24) (by decide +kernel), List.mem_of_getElem? (i := 291) (by decide +kernel), List.mem_of_getElem? (i := 292) (by decide +kernel)⟩
theorem lw_p3 : lw_okq (⟨"WireField", "keepMoment", "()V"⟩, 13) := ⟨⟨by decide +kernel, by decide +kernel⟩, List.mem_of_getElem? (i := 24) (by decide +kernel), List.mem_of_getElem? (i := 295) (by decide +kernel), List.mem_of_getElem? (i := 296) (by decide +kernel)⟩
theorem lw_p4 : lw_okq (⟨"WireField", "momentAt", "(I)LWireField$Moment;"⟩, 13) := ⟨⟨by decide +kernel, by decide +kernel⟩, List.mem_of_getElem? (i := 24) (by decide +kernel), List.mem_of_getElem? (i := 299) (by decide +kernel), List.mem_of_getElem? (i := 300) (by decide +kernel)⟩
theorem lw_p5 : lw_okq (⟨"WireField$Grid", "besideOneOrTwoHeads", "(I)I"⟩, 3) := ⟨⟨by decide +kernel, by decide +kernel⟩, List.mem_of_getElem? (i := 32) (by decide +kernel), List.mem_of_getElem? (i := 319) (by decide +kernel), List.mem_of_getElem? (i := 320) (by decide +kernel)⟩
theorem lw_p6 : lw_okq (⟨"java/lang/Throwable", "fillInStackTrace", "(I)Ljava/lang/Throwable;"⟩, 6) := ⟨⟨by decide +kernel, by decide +kernel⟩, List.mem_of_getElem? (i := 410) (by decide +kernel), List.mem_of_getElem? (i := 408) (by decide +kernel), List.mem_of_getElem? (i := 409) (by decide +kernel)⟩
theorem lw_p7 : lw_okq (⟨"WireField$Text", "endOfOrders", "(III)I"⟩, 2) := ⟨⟨by decide +kernel, by decide +kernel⟩, List.mem_of_getElem? (i := 82) (by decide +kernel), List.mem_of_getElem? (i := 444) (by decide +kernel), List.mem_of_getElem? (i := 445) (by decide +kernel)⟩
theorem lw_p8 : lw_okq (⟨"WireField$Text", "endOfOrder", "(III)I"⟩, 2) := ⟨⟨by decide +kernel, by decide +kernel⟩, List.mem_of_getElem? (i := 82) (by decide +kernel), List.mem_of_getElem? (i := 462) (by decide +kernel), List.mem_of_getElem? (i := 463) (by decide +kernel)⟩
theorem lw_p9 : lw_okq (⟨"WireField$Text", "endOfBracket", "(ICII)I"⟩, 2) := ⟨⟨by decide +kernel, by decide +kernel⟩, List.mem_of_getElem? (i := 82) (by decide +kernel), List.mem_of_getElem? (i := 466) (by decide +kernel), List.mem_of_getElem? (i := 467) (by decide +kernel)⟩
theorem lw_p10 : lw_okq (⟨"WireField", "macrosOfLineAreThere", "()Z"⟩, 13) := ⟨⟨by decide +kernel, by decide +kernel⟩, List.mem_of_getElem? (i := 24) (by decide +kernel), List.mem_of_getElem? (i := 553) (by decide +kernel), List.mem_of_getElem? (i := 554) (by decide +kernel)⟩
theorem lw_p11 : lw_okq (⟨"WireField", "perform", "(LWireField$Text;III)Z"⟩, 13) := ⟨⟨by decide +kernel, by decide +kernel⟩, List.mem_of_getElem? (i := 24) (by decide +kernel), List.mem_of_getElem? (i := 582) (by decide +kernel), List.mem_of_getElem? (i := 583) (by decide +kernel)⟩
theorem lw_p12 : lw_okq (⟨"WireField", "performOrder", "(LWireField$Text;III)Z"⟩, 13) := ⟨⟨by decide +kernel, by decide +kernel⟩, List.mem_of_getElem? (i := 24) (by decide +kernel), List.mem_of_getElem? (i := 595) (by decide +kernel), List.mem_of_getElem? (i := 596) (by decide +kernel)⟩
theorem lw_p13 : lw_okq (⟨"WireField", "performBranch", "(LWireField$Text;III)Z"⟩, 13) := ⟨⟨by decide +kernel, by decide +kernel⟩, List.mem_of_getElem? (i := 24) (by decide +kernel), List.mem_of_getElem? (i := 604) (by decide +kernel), List.mem_of_getElem? (i := 605) (by decide +kernel)⟩
theorem lw_p14 : lw_okq (⟨"WireField", "performMacro", "(II)Z"⟩, 13) := ⟨⟨by decide +kernel, by decide +kernel⟩, List.mem_of_getElem? (i := 24) (by decide +kernel), List.mem_of_getElem? (i := 608) (by decide +kernel), List.mem_of_getElem? (i := 609) (by decide +kernel)⟩
theorem lw_p15 : lw_okq (⟨"WireField$Pen", "drawForward", "()Z"⟩, 6) := ⟨⟨by decide +kernel, by decide +kernel⟩, List.mem_of_getElem? (i := 49) (by decide +kernel), List.mem_of_getElem? (i := 616) (by decide +kernel), List.mem_of_getElem? (i := 617) (by decide +kernel)⟩
def lw_privs_1 : List (MethodName × Nat) := [(⟨"WireField", "forgetHistory", "()V"⟩, 13), (⟨"WireField", "putTurned", "(IIIIIII)V"⟩, 13), (⟨"WireField", "makeGeneration", "()V"⟩, 13), (⟨"WireField", "keepMoment", "()V"⟩, 13), (⟨"WireField", "momentAt", "(I)LWireField$Moment;"⟩, 13), (⟨"WireField$Grid", "besideOneOrTwoHeads", "(I)I"⟩, 3), (⟨"java/lang/Throwable", "fillInStackTrace", "(I)Ljava/lang/Throwable;"⟩, 6), (⟨"WireField$Text", "endOfOrders", "(III)I"⟩, 2), (⟨"WireField$Text", "endOfOrder", "(III)I"⟩, 2), (⟨"WireField$Text", "endOfBracket", "(ICII)I"⟩, 2), (⟨"WireField", "macrosOfLineAreThere", "()Z"⟩, 13), (⟨"WireField", "perform", "(LWireField$Text;III)Z"⟩, 13), (⟨"WireField", "performOrder", "(LWireField$Text;III)Z"⟩, 13), (⟨"WireField", "performBranch", "(LWireField$Text;III)Z"⟩, 13), (⟨"WireField", "performMacro", "(II)Z"⟩, 13), (⟨"WireField$Pen", "drawForward", "()Z"⟩, 6)]
theorem lw_r1 : ∀ q ∈ lw_privs_1, lw_okq q := List.forall_mem_cons.mpr ⟨lw_p0, List.forall_mem_cons.mpr ⟨lw_p1, List.forall_mem_cons.mpr ⟨lw_p2, List.forall_mem_cons.mpr ⟨lw_p3, List.forall_mem_cons.mpr ⟨lw_p4, List.forall_mem_cons.mpr ⟨lw_p5, List.forall_mem_cons.mpr ⟨lw_p6, List.forall_mem_cons.mpr ⟨lw_p7, List.forall_mem_cons.mpr ⟨lw_p8, List.forall_mem_cons.mpr ⟨lw_p9, List.forall_mem_cons.mpr ⟨lw_p10, List.forall_mem_cons.mpr ⟨lw_p11, List.forall_mem_cons.mpr ⟨lw_p12, List.forall_mem_cons.mpr ⟨lw_p13, List.forall_mem_cons.mpr ⟨lw_p14, List.forall_mem_cons.mpr ⟨lw_p15, fun _ h => absurd h List.not_mem_nil⟩⟩⟩⟩⟩⟩⟩⟩⟩⟩⟩⟩⟩⟩⟩⟩
theorem lw_p16 : lw_okq (⟨"WireField$Pen", "move", "(I)Z"⟩, 6) := ⟨⟨by decide +kernel, by decide +kernel⟩, List.mem_of_getElem? (i := 49) (by decide +kernel), List.mem_of_getElem? (i := 620) (by decide +kernel), List.mem_of_getElem? (i := 621) (by decide +kernel)⟩
theorem lw_p17 : lw_okq (⟨"WireField$Pen", "columnAt", "(II)I"⟩, 6) := ⟨⟨by decide +kernel, by decide +kernel⟩, List.mem_of_getElem? (i := 49) (by decide +kernel), List.mem_of_getElem? (i := 624) (by decide +kernel), List.mem_of_getElem? (i := 625) (by decide +kernel)⟩
theorem lw_p18 : lw_okq (⟨"WireField$Pen", "rowAt", "(II)I"⟩, 6) := ⟨⟨by decide +kernel, by decide +kernel⟩, List.mem_of_getElem? (i := 49) (by decide +kernel), List.mem_of_getElem? (i := 630) (by decide +kernel), List.mem_of_getElem? (i := 631) (by decide +kernel)⟩
theorem lw_p19 : lw_okq (⟨"WireField$Pen", "mark", "(II)V"⟩, 6) := ⟨⟨by decide +kernel, by decide +kernel⟩, List.mem_of_getElem? (i := 49) (by decide +kernel), List.mem_of_getElem? (i := 637) (by decide +kernel), List.mem_of_getElem? (i := 638) (by decide +kernel)⟩
theorem lw_p20 : lw_okq (⟨"WireField$Pen", "putElectron", "()V"⟩, 6) := ⟨⟨by decide +kernel, by decide +kernel⟩, List.mem_of_getElem? (i := 49) (by decide +kernel), List.mem_of_getElem? (i := 642) (by decide +kernel), List.mem_of_getElem? (i := 643) (by decide +kernel)⟩
theorem lw_p21 : lw_okq (⟨"WireField$Pen", "drawDiode", "()Z"⟩, 6) := ⟨⟨by decide +kernel, by decide +kernel⟩, List.mem_of_getElem? (i := 49) (by decide +kernel), List.mem_of_getElem? (i := 647) (by decide +kernel), List.mem_of_getElem? (i := 648) (by decide +kernel)⟩
theorem lw_p22 : lw_okq (⟨"WireField$Pen", "hasCell", "(II)Z"⟩, 6) := ⟨⟨by decide +kernel, by decide +kernel⟩, List.mem_of_getElem? (i := 49) (by decide +kernel), List.mem_of_getElem? (i := 651) (by decide +kernel), List.mem_of_getElem? (i := 652) (by decide +kernel)⟩
theorem lw_p23 : lw_okq (⟨"WireFieldModel", "generation", "()V"⟩, 43) := ⟨⟨by decide +kernel, by decide +kernel⟩, List.mem_of_getElem? (i := 693) (by decide +kernel), List.mem_of_getElem? (i := 838) (by decide +kernel), List.mem_of_getElem? (i := 839) (by decide +kernel)⟩
theorem lw_p24 : lw_okq (⟨"WireFieldModel", "keep", "()V"⟩, 43) := ⟨⟨by decide +kernel, by decide +kernel⟩, List.mem_of_getElem? (i := 693) (by decide +kernel), List.mem_of_getElem? (i := 842) (by decide +kernel), List.mem_of_getElem? (i := 843) (by decide +kernel)⟩
theorem lw_p25 : lw_okq (⟨"WireFieldModel", "lit", "(I)I"⟩, 43) := ⟨⟨by decide +kernel, by decide +kernel⟩, List.mem_of_getElem? (i := 693) (by decide +kernel), List.mem_of_getElem? (i := 846) (by decide +kernel), List.mem_of_getElem? (i := 847) (by decide +kernel)⟩
theorem lw_p26 : lw_okq (⟨"WireFieldModel", "headsIn", "(I)I"⟩, 43) := ⟨⟨by decide +kernel, by decide +kernel⟩, List.mem_of_getElem? (i := 693) (by decide +kernel), List.mem_of_getElem? (i := 850) (by decide +kernel), List.mem_of_getElem? (i := 851) (by decide +kernel)⟩
theorem lw_p27 : lw_okq (⟨"WireFieldModel", "count", "(I)I"⟩, 43) := ⟨⟨by decide +kernel, by decide +kernel⟩, List.mem_of_getElem? (i := 693) (by decide +kernel), List.mem_of_getElem? (i := 858) (by decide +kernel), List.mem_of_getElem? (i := 859) (by decide +kernel)⟩
theorem lw_p28 : lw_okq (⟨"WireFieldModel", "reads", "()Z"⟩, 43) := ⟨⟨by decide +kernel, by decide +kernel⟩, List.mem_of_getElem? (i := 693) (by decide +kernel), List.mem_of_getElem? (i := 882) (by decide +kernel), List.mem_of_getElem? (i := 883) (by decide +kernel)⟩
theorem lw_p29 : lw_okq (⟨"WireFieldModel", "sign", "(II)I"⟩, 43) := ⟨⟨by decide +kernel, by decide +kernel⟩, List.mem_of_getElem? (i := 693) (by decide +kernel), List.mem_of_getElem? (i := 886) (by decide +kernel), List.mem_of_getElem? (i := 887) (by decide +kernel)⟩
theorem lw_p30 : lw_okq (⟨"WireFieldModel", "complete", "()Z"⟩, 43) := ⟨⟨by decide +kernel, by decide +kernel⟩, List.mem_of_getElem? (i := 693) (by decide +kernel), List.mem_of_getElem? (i := 903) (by decide +kernel), List.mem_of_getElem? (i := 904) (by decide +kernel)⟩
theorem lw_p31 : lw_okq (⟨"WireFieldModel", "goThrough", "()V"⟩, 43) := ⟨⟨by decide +kernel, by decide +kernel⟩, List.mem_of_getElem? (i := 693) (by decide +kernel), List.mem_of_getElem? (i := 907) (by decide +kernel), List.mem_of_getElem? (i := 908) (by decide +kernel)⟩
def lw_privs_2 : List (MethodName × Nat) := [(⟨"WireField$Pen", "move", "(I)Z"⟩, 6), (⟨"WireField$Pen", "columnAt", "(II)I"⟩, 6), (⟨"WireField$Pen", "rowAt", "(II)I"⟩, 6), (⟨"WireField$Pen", "mark", "(II)V"⟩, 6), (⟨"WireField$Pen", "putElectron", "()V"⟩, 6), (⟨"WireField$Pen", "drawDiode", "()Z"⟩, 6), (⟨"WireField$Pen", "hasCell", "(II)Z"⟩, 6), (⟨"WireFieldModel", "generation", "()V"⟩, 43), (⟨"WireFieldModel", "keep", "()V"⟩, 43), (⟨"WireFieldModel", "lit", "(I)I"⟩, 43), (⟨"WireFieldModel", "headsIn", "(I)I"⟩, 43), (⟨"WireFieldModel", "count", "(I)I"⟩, 43), (⟨"WireFieldModel", "reads", "()Z"⟩, 43), (⟨"WireFieldModel", "sign", "(II)I"⟩, 43), (⟨"WireFieldModel", "complete", "()Z"⟩, 43), (⟨"WireFieldModel", "goThrough", "()V"⟩, 43)]
theorem lw_r2 : ∀ q ∈ lw_privs_2, lw_okq q := List.forall_mem_cons.mpr ⟨lw_p16, List.forall_mem_cons.mpr ⟨lw_p17, List.forall_mem_cons.mpr ⟨lw_p18, List.forall_mem_cons.mpr ⟨lw_p19, List.forall_mem_cons.mpr ⟨lw_p20, List.forall_mem_cons.mpr ⟨lw_p21, List.forall_mem_cons.mpr ⟨lw_p22, List.forall_mem_cons.mpr ⟨lw_p23, List.forall_mem_cons.mpr ⟨lw_p24, List.forall_mem_cons.mpr ⟨lw_p25, List.forall_mem_cons.mpr ⟨lw_p26, List.forall_mem_cons.mpr ⟨lw_p27, List.forall_mem_cons.mpr ⟨lw_p28, List.forall_mem_cons.mpr ⟨lw_p29, List.forall_mem_cons.mpr ⟨lw_p30, List.forall_mem_cons.mpr ⟨lw_p31, fun _ h => absurd h List.not_mem_nil⟩⟩⟩⟩⟩⟩⟩⟩⟩⟩⟩⟩⟩⟩⟩⟩
theorem lw_p32 : lw_okq (⟨"WireFieldModel", "comeBack", "()V"⟩, 43) := ⟨⟨by decide +kernel, by decide +kernel⟩, List.mem_of_getElem? (i := 693) (by decide +kernel), List.mem_of_getElem? (i := 911) (by decide +kernel), List.mem_of_getElem? (i := 912) (by decide +kernel)⟩
theorem lw_p33 : lw_okq (⟨"WireFieldModel", "again", "()V"⟩, 43) := ⟨⟨by decide +kernel, by decide +kernel⟩, List.mem_of_getElem? (i := 693) (by decide +kernel), List.mem_of_getElem? (i := 915) (by decide +kernel), List.mem_of_getElem? (i := 916) (by decide +kernel)⟩
theorem lw_p34 : lw_okq (⟨"WireFieldModel", "countOne", "()V"⟩, 43) := ⟨⟨by decide +kernel, by decide +kernel⟩, List.mem_of_getElem? (i := 693) (by decide +kernel), List.mem_of_getElem? (i := 919) (by decide +kernel), List.mem_of_getElem? (i := 920) (by decide +kernel)⟩
theorem lw_p35 : lw_okq (⟨"WireFieldModel", "open", "(IIII)V"⟩, 43) := ⟨⟨by decide +kernel, by decide +kernel⟩, List.mem_of_getElem? (i := 693) (by decide +kernel), List.mem_of_getElem? (i := 923) (by decide +kernel), List.mem_of_getElem? (i := 924) (by decide +kernel)⟩
theorem lw_p36 : lw_okq (⟨"WireFieldModel", "behind", "(II)I"⟩, 43) := ⟨⟨by decide +kernel, by decide +kernel⟩, List.mem_of_getElem? (i := 693) (by decide +kernel), List.mem_of_getElem? (i := 927) (by decide +kernel), List.mem_of_getElem? (i := 928) (by decide +kernel)⟩
theorem lw_p37 : lw_okq (⟨"WireFieldModel", "obey", "(I)V"⟩, 43) := ⟨⟨by decide +kernel, by decide +kernel⟩, List.mem_of_getElem? (i := 693) (by decide +kernel), List.mem_of_getElem? (i := 931) (by decide +kernel), List.mem_of_getElem? (i := 932) (by decide +kernel)⟩
theorem lw_p38 : lw_okq (⟨"WireFieldModel", "step", "(IZZ)V"⟩, 43) := ⟨⟨by decide +kernel, by decide +kernel⟩, List.mem_of_getElem? (i := 693) (by decide +kernel), List.mem_of_getElem? (i := 935) (by decide +kernel), List.mem_of_getElem? (i := 936) (by decide +kernel)⟩
theorem lw_p39 : lw_okq (⟨"WireFieldModel", "put", "(III)V"⟩, 43) := ⟨⟨by decide +kernel, by decide +kernel⟩, List.mem_of_getElem? (i := 693) (by decide +kernel), List.mem_of_getElem? (i := 945) (by decide +kernel), List.mem_of_getElem? (i := 946) (by decide +kernel)⟩
theorem lw_p40 : lw_okq (⟨"WireFieldModel", "change", "(III)V"⟩, 43) := ⟨⟨by decide +kernel, by decide +kernel⟩, List.mem_of_getElem? (i := 693) (by decide +kernel), List.mem_of_getElem? (i := 953) (by decide +kernel), List.mem_of_getElem? (i := 954) (by decide +kernel)⟩
def lw_privs_3 : List (MethodName × Nat) := [(⟨"WireFieldModel", "comeBack", "()V"⟩, 43), (⟨"WireFieldModel", "again", "()V"⟩, 43), (⟨"WireFieldModel", "countOne", "()V"⟩, 43), (⟨"WireFieldModel", "open", "(IIII)V"⟩, 43), (⟨"WireFieldModel", "behind", "(II)I"⟩, 43), (⟨"WireFieldModel", "obey", "(I)V"⟩, 43), (⟨"WireFieldModel", "step", "(IZZ)V"⟩, 43), (⟨"WireFieldModel", "put", "(III)V"⟩, 43), (⟨"WireFieldModel", "change", "(III)V"⟩, 43)]
theorem lw_r3 : ∀ q ∈ lw_privs_3, lw_okq q := List.forall_mem_cons.mpr ⟨lw_p32, List.forall_mem_cons.mpr ⟨lw_p33, List.forall_mem_cons.mpr ⟨lw_p34, List.forall_mem_cons.mpr ⟨lw_p35, List.forall_mem_cons.mpr ⟨lw_p36, List.forall_mem_cons.mpr ⟨lw_p37, List.forall_mem_cons.mpr ⟨lw_p38, List.forall_mem_cons.mpr ⟨lw_p39, List.forall_mem_cons.mpr ⟨lw_p40, fun _ h => absurd h List.not_mem_nil⟩⟩⟩⟩⟩⟩⟩⟩⟩
def lw_privs : List (MethodName × Nat) := lw_privs_1 ++ (lw_privs_2 ++ (lw_privs_3))
def lw_tbl : List Cond := k2_sels lw_privs ++ tables_1
theorem lw_privs_ok : ∀ q ∈ lw_privs, lw_okq q := by
  show ∀ q ∈ lw_privs_1 ++ (lw_privs_2 ++ (lw_privs_3)), lw_okq q
  exact List.forall_mem_append.mpr ⟨lw_r1, List.forall_mem_append.mpr ⟨lw_r2, lw_r3⟩⟩
end
section
def RX0 : String := "WireField$Grid"
def TX0 : u_T := fun k => match k with
  | 0 => ("WireField$Grid", "heads", "[I", true)
  | 1 => ("WireField$Grid", "tails", "[I", true)
  | _ => ("WireField$Grid", "wires", "[I", true)
def tyX0 : Nat → FieldType := fun k => match k with
  | 0 => .array .int
  | 1 => .array .int
  | _ => .array .int
theorem nmX0 : ∀ a, a < 3 → ∀ b, b < 3 → a ≠ b → (TX0 a).2.1 ≠ (TX0 b).2.1 := by decide +kernel
theorem tyX0_ok : ∀ k, k < 3 → parseFieldDescriptor (TX0 k).2.2.1 = some (tyX0 k) := by decide +kernel
def RX1 : String := "WireField$Moment"
def TX1 : u_T := fun k => match k with
  | 0 => ("WireField$Moment", "grid", "LWireField$Grid;", true)
  | _ => ("WireField$Moment", "places", "[I", true)
def tyX1 : Nat → FieldType := fun k => match k with
  | 0 => .object "WireField$Grid"
  | _ => .array .int
theorem nmX1 : ∀ a, a < 2 → ∀ b, b < 2 → a ≠ b → (TX1 a).2.1 ≠ (TX1 b).2.1 := by decide +kernel
theorem tyX1_ok : ∀ k, k < 2 → parseFieldDescriptor (TX1 k).2.2.1 = some (tyX1 k) := by decide +kernel
def RX2 : String := "WireField$Pen"
def TX2 : u_T := fun k => match k with
  | 0 => ("WireField$Pen", "sheet", "LWireField$Grid;", true)
  | 1 => ("WireField$Pen", "column", "I", false)
  | 2 => ("WireField$Pen", "row", "I", false)
  | 3 => ("WireField$Pen", "direction", "I", false)
  | 4 => ("WireField$Pen", "isDown", "Z", false)
  | _ => ("WireField$Pen", "ordersDone", "I", false)
def tyX2 : Nat → FieldType := fun k => match k with
  | 0 => .object "WireField$Grid"
  | 1 => .int
  | 2 => .int
  | 3 => .int
  | 4 => .boolean
  | _ => .int
theorem nmX2 : ∀ a, a < 6 → ∀ b, b < 6 → a ≠ b → (TX2 a).2.1 ≠ (TX2 b).2.1 := by decide +kernel
theorem tyX2_ok : ∀ k, k < 6 → parseFieldDescriptor (TX2 k).2.2.1 = some (tyX2 k) := by decide +kernel
def RX3 : String := "WireField$Probe"
def TX3 : u_T := fun k => match k with
  | 0 => ("WireField$Probe", "column", "I", false)
  | 1 => ("WireField$Probe", "row", "I", false)
  | 2 => ("WireField$Probe", "headCount", "I", false)
  | 3 => ("WireField$Probe", "latestTime", "I", false)
  | _ => ("WireField$Probe", "headBits", "J", false)
def tyX3 : Nat → FieldType := fun k => match k with
  | 0 => .int
  | 1 => .int
  | 2 => .int
  | 3 => .int
  | _ => .long
theorem nmX3 : ∀ a, a < 5 → ∀ b, b < 5 → a ≠ b → (TX3 a).2.1 ≠ (TX3 b).2.1 := by decide +kernel
theorem tyX3_ok : ∀ k, k < 5 → parseFieldDescriptor (TX3 k).2.2.1 = some (tyX3 k) := by decide +kernel
def RX4 : String := "WireField$Source"
def TX4 : u_T := fun k => match k with
  | 0 => ("WireField$Source", "column", "I", false)
  | 1 => ("WireField$Source", "row", "I", false)
  | 2 => ("WireField$Source", "pattern", "J", false)
  | 3 => ("WireField$Source", "patternLength", "I", false)
  | _ => ("WireField$Source", "place", "I", false)
def tyX4 : Nat → FieldType := fun k => match k with
  | 0 => .int
  | 1 => .int
  | 2 => .long
  | 3 => .int
  | _ => .int
theorem nmX4 : ∀ a, a < 5 → ∀ b, b < 5 → a ≠ b → (TX4 a).2.1 ≠ (TX4 b).2.1 := by decide +kernel
theorem tyX4_ok : ∀ k, k < 5 → parseFieldDescriptor (TX4 k).2.2.1 = some (tyX4 k) := by decide +kernel
def RX5 : String := "WireField$Text"
def TX5 : u_T := fun k => match k with
  | 0 => ("WireField$Text", "signs", "[C", true)
  | _ => ("WireField$Text", "length", "I", false)
def tyX5 : Nat → FieldType := fun k => match k with
  | 0 => .array .char
  | _ => .int
theorem nmX5 : ∀ a, a < 2 → ∀ b, b < 2 → a ≠ b → (TX5 a).2.1 ≠ (TX5 b).2.1 := by decide +kernel
theorem tyX5_ok : ∀ k, k < 2 → parseFieldDescriptor (TX5 k).2.2.1 = some (tyX5 k) := by decide +kernel
def RX6 : String := "WireField"
def TX6 : u_T := fun k => match k with
  | 0 => ("WireField", "field", "LWireField$Grid;", true)
  | 1 => ("WireField", "draft", "LWireField$Grid;", true)
  | 2 => ("WireField", "pen", "LWireField$Pen;", true)
  | 3 => ("WireField", "line", "LWireField$Text;", true)
  | 4 => ("WireField", "macros", "[LWireField$Text;", true)
  | 5 => ("WireField", "macroIsThere", "[Z", true)
  | 6 => ("WireField", "sources", "[LWireField$Source;", true)
  | 7 => ("WireField", "sourceCount", "I", false)
  | 8 => ("WireField", "probes", "[LWireField$Probe;", true)
  | 9 => ("WireField", "probeCount", "I", false)
  | 10 => ("WireField", "moments", "[LWireField$Moment;", true)
  | 11 => ("WireField", "keptCount", "I", false)
  | _ => ("WireField", "time", "I", false)
def tyX6 : Nat → FieldType := fun k => match k with
  | 0 => .object "WireField$Grid"
  | 1 => .object "WireField$Grid"
  | 2 => .object "WireField$Pen"
  | 3 => .object "WireField$Text"
  | 4 => .array (.object "WireField$Text")
  | 5 => .array .boolean
  | 6 => .array (.object "WireField$Source")
  | 7 => .int
  | 8 => .array (.object "WireField$Probe")
  | 9 => .int
  | 10 => .array (.object "WireField$Moment")
  | 11 => .int
  | _ => .int
theorem nmX6 : ∀ a, a < 13 → ∀ b, b < 13 → a ≠ b → (TX6 a).2.1 ≠ (TX6 b).2.1 := by decide +kernel
theorem tyX6_ok : ∀ k, k < 13 → parseFieldDescriptor (TX6 k).2.2.1 = some (tyX6 k) := by decide +kernel
def RX7 : String := "WireFieldModel"
def TX7 : u_T := fun k => match k with
  | 0 => ("WireFieldModel", "thrown", "I", false)
  | 1 => ("WireFieldModel", "head", "[I", true)
  | 2 => ("WireFieldModel", "tail", "[I", true)
  | 3 => ("WireFieldModel", "wire", "[I", true)
  | 4 => ("WireFieldModel", "heads", "[I", true)
  | 5 => ("WireFieldModel", "kept", "[I", true)
  | 6 => ("WireFieldModel", "keptPlace", "[I", true)
  | 7 => ("WireFieldModel", "at", "I", false)
  | 8 => ("WireFieldModel", "history", "I", false)
  | 9 => ("WireFieldModel", "time", "I", false)
  | 10 => ("WireFieldModel", "sources", "I", false)
  | 11 => ("WireFieldModel", "sourceX", "[I", true)
  | 12 => ("WireFieldModel", "sourceY", "[I", true)
  | 13 => ("WireFieldModel", "pattern", "[J", true)
  | 14 => ("WireFieldModel", "many", "[I", true)
  | 15 => ("WireFieldModel", "place", "[I", true)
  | 16 => ("WireFieldModel", "probes", "I", false)
  | 17 => ("WireFieldModel", "probeX", "[I", true)
  | 18 => ("WireFieldModel", "probeY", "[I", true)
  | 19 => ("WireFieldModel", "seen", "[I", true)
  | 20 => ("WireFieldModel", "latest", "[I", true)
  | 21 => ("WireFieldModel", "record", "[J", true)
  | 22 => ("WireFieldModel", "text", "[I", true)
  | 23 => ("WireFieldModel", "size", "[I", true)
  | 24 => ("WireFieldModel", "uses", "[I", true)
  | 25 => ("WireFieldModel", "drawnHead", "[I", true)
  | 26 => ("WireFieldModel", "drawnTail", "[I", true)
  | 27 => ("WireFieldModel", "drawnWire", "[I", true)
  | 28 => ("WireFieldModel", "x", "I", false)
  | 29 => ("WireFieldModel", "y", "I", false)
  | 30 => ("WireFieldModel", "direction", "I", false)
  | 31 => ("WireFieldModel", "up", "Z", false)
  | 32 => ("WireFieldModel", "done", "I", false)
  | 33 => ("WireFieldModel", "beyond", "Z", false)
  | 34 => ("WireFieldModel", "opened", "I", false)
  | 35 => ("WireFieldModel", "sign", "[I", true)
  | 36 => ("WireFieldModel", "text0", "[I", true)
  | 37 => ("WireFieldModel", "from", "[I", true)
  | 38 => ("WireFieldModel", "left", "[I", true)
  | 39 => ("WireFieldModel", "penX", "[I", true)
  | 40 => ("WireFieldModel", "penY", "[I", true)
  | 41 => ("WireFieldModel", "penDirection", "[I", true)
  | _ => ("WireFieldModel", "penUp", "[Z", true)
def tyX7 : Nat → FieldType := fun k => match k with
  | 0 => .int
  | 1 => .array .int
  | 2 => .array .int
  | 3 => .array .int
  | 4 => .array .int
  | 5 => .array .int
  | 6 => .array .int
  | 7 => .int
  | 8 => .int
  | 9 => .int
  | 10 => .int
  | 11 => .array .int
  | 12 => .array .int
  | 13 => .array .long
  | 14 => .array .int
  | 15 => .array .int
  | 16 => .int
  | 17 => .array .int
  | 18 => .array .int
  | 19 => .array .int
  | 20 => .array .int
  | 21 => .array .long
  | 22 => .array .int
  | 23 => .array .int
  | 24 => .array .int
  | 25 => .array .int
  | 26 => .array .int
  | 27 => .array .int
  | 28 => .int
  | 29 => .int
  | 30 => .int
  | 31 => .boolean
  | 32 => .int
  | 33 => .boolean
  | 34 => .int
  | 35 => .array .int
  | 36 => .array .int
  | 37 => .array .int
  | 38 => .array .int
  | 39 => .array .int
  | 40 => .array .int
  | 41 => .array .int
  | _ => .array .boolean
theorem nmX7 : ∀ a, a < 43 → ∀ b, b < 43 → a ≠ b → (TX7 a).2.1 ≠ (TX7 b).2.1 := by decide +kernel
theorem tyX7_ok : ∀ k, k < 43 → parseFieldDescriptor (TX7 k).2.2.1 = some (tyX7 k) := by decide +kernel
abbrev vwCl : List vw_C := [(RX0, TX0, 3), (RX1, TX1, 2), (RX2, TX2, 6), (RX3, TX3, 5), (RX4, TX4, 5), (RX5, TX5, 2), (RX6, TX6, 13), (RX7, TX7, 43)]
def y_WF_init : MethodName := ⟨"WireField", "<init>", "()V"⟩
def y_WF_type : MethodName := ⟨"WireField", "type", "(C)Z"⟩
def y_WF_draw : MethodName := ⟨"WireField", "draw", "(III)I"⟩
def y_WF_macro : MethodName := ⟨"WireField", "macro", "(I)V"⟩
def y_WF_wipe : MethodName := ⟨"WireField", "wipe", "()V"⟩
def y_WF_set : MethodName := ⟨"WireField", "set", "(III)Z"⟩
def y_WF_cell : MethodName := ⟨"WireField", "cell", "(II)I"⟩
def y_WF_copy : MethodName := ⟨"WireField", "copy", "(IIIIIII)Z"⟩
def y_WF_source : MethodName := ⟨"WireField", "source", "(IIJI)I"⟩
def y_WF_probe : MethodName := ⟨"WireField", "probe", "(II)I"⟩
def y_WF_run : MethodName := ⟨"WireField", "run", "(I)I"⟩
def y_WF_back : MethodName := ⟨"WireField", "back", "(I)Z"⟩
def y_WF_period : MethodName := ⟨"WireField", "period", "()I"⟩
def y_WF_seen : MethodName := ⟨"WireField", "seen", "(II)I"⟩
def y_WF_record : MethodName := ⟨"WireField", "record", "(I)J"⟩
def y_WF_look : MethodName := ⟨"WireField", "look", "(I)I"⟩
def y_WF_isWithin : MethodName := ⟨"WireField", "isWithin", "(II)Z"⟩
def y_WF_isPiece : MethodName := ⟨"WireField", "isPiece", "(IIII)Z"⟩
def y_WF_putTurned : MethodName := ⟨"WireField", "putTurned", "(IIIIIII)V"⟩
def y_WF_turnedX : MethodName := ⟨"WireField", "turnedX", "(IIIII)I"⟩
def y_WF_turnedY : MethodName := ⟨"WireField", "turnedY", "(IIIII)I"⟩
def y_WF_forgetHistory : MethodName := ⟨"WireField", "forgetHistory", "()V"⟩
def y_WF_momentAt : MethodName := ⟨"WireField", "momentAt", "(I)LWireField$Moment;"⟩
def y_WF_makeGeneration : MethodName := ⟨"WireField", "makeGeneration", "()V"⟩
def y_WF_keepMoment : MethodName := ⟨"WireField", "keepMoment", "()V"⟩
def y_WF_macrosOfLineAreThere : MethodName := ⟨"WireField", "macrosOfLineAreThere", "()Z"⟩
def y_WF_perform : MethodName := ⟨"WireField", "perform", "(LWireField$Text;III)Z"⟩
def y_WF_performOrder : MethodName := ⟨"WireField", "performOrder", "(LWireField$Text;III)Z"⟩
def y_WF_performBranch : MethodName := ⟨"WireField", "performBranch", "(LWireField$Text;III)Z"⟩
def y_WF_performMacro : MethodName := ⟨"WireField", "performMacro", "(II)Z"⟩
def y_M_init : MethodName := ⟨"WireFieldModel", "<init>", "()V"⟩
def y_M_thrown : MethodName := ⟨"WireFieldModel", "thrown", "()I"⟩
def y_M_is : MethodName := ⟨"WireFieldModel", "is", "(II)Z"⟩
def y_M_bit : MethodName := ⟨"WireFieldModel", "bit", "(II)I"⟩
def y_M_headsIn : MethodName := ⟨"WireFieldModel", "headsIn", "(I)I"⟩
def y_M_lit : MethodName := ⟨"WireFieldModel", "lit", "(I)I"⟩
def y_M_keep : MethodName := ⟨"WireFieldModel", "keep", "()V"⟩
def y_M_generation : MethodName := ⟨"WireFieldModel", "generation", "()V"⟩
def y_M_run : MethodName := ⟨"WireFieldModel", "run", "(I)I"⟩
def y_M_back : MethodName := ⟨"WireFieldModel", "back", "(I)Z"⟩
def y_M_period : MethodName := ⟨"WireFieldModel", "period", "()I"⟩
def y_M_type : MethodName := ⟨"WireFieldModel", "type", "(C)Z"⟩
def y_M_wipe : MethodName := ⟨"WireFieldModel", "wipe", "()V"⟩
def y_M_sign : MethodName := ⟨"WireFieldModel", "sign", "(II)I"⟩
def y_M_digit : MethodName := ⟨"WireFieldModel", "digit", "(I)Z"⟩
def y_M_single : MethodName := ⟨"WireFieldModel", "single", "(I)Z"⟩
def y_M_reads : MethodName := ⟨"WireFieldModel", "reads", "()Z"⟩
def y_M_complete : MethodName := ⟨"WireFieldModel", "complete", "()Z"⟩
def y_M_macro : MethodName := ⟨"WireFieldModel", "macro", "(I)V"⟩
def y_M_across : MethodName := ⟨"WireFieldModel", "across", "(I)I"⟩
def y_M_down : MethodName := ⟨"WireFieldModel", "down", "(I)I"⟩
def y_M_countOne : MethodName := ⟨"WireFieldModel", "countOne", "()V"⟩
def y_M_put : MethodName := ⟨"WireFieldModel", "put", "(III)V"⟩
def y_M_step : MethodName := ⟨"WireFieldModel", "step", "(IZZ)V"⟩
def y_M_obey : MethodName := ⟨"WireFieldModel", "obey", "(I)V"⟩
def y_M_open : MethodName := ⟨"WireFieldModel", "open", "(IIII)V"⟩
def y_M_again : MethodName := ⟨"WireFieldModel", "again", "()V"⟩
def y_M_comeBack : MethodName := ⟨"WireFieldModel", "comeBack", "()V"⟩
def y_M_behind : MethodName := ⟨"WireFieldModel", "behind", "(II)I"⟩
def y_M_goThrough : MethodName := ⟨"WireFieldModel", "goThrough", "()V"⟩
def y_M_draw : MethodName := ⟨"WireFieldModel", "draw", "(III)I"⟩
def y_M_change : MethodName := ⟨"WireFieldModel", "change", "(III)V"⟩
def y_M_set : MethodName := ⟨"WireFieldModel", "set", "(III)Z"⟩
def y_M_cell : MethodName := ⟨"WireFieldModel", "cell", "(II)I"⟩
def y_M_copy : MethodName := ⟨"WireFieldModel", "copy", "(IIIIIII)Z"⟩
def y_M_source : MethodName := ⟨"WireFieldModel", "source", "(IIJI)I"⟩
def y_M_probe : MethodName := ⟨"WireFieldModel", "probe", "(II)I"⟩
def y_M_seen : MethodName := ⟨"WireFieldModel", "seen", "(II)I"⟩
def y_M_record : MethodName := ⟨"WireFieldModel", "record", "(I)J"⟩
def y_M_count : MethodName := ⟨"WireFieldModel", "count", "(I)I"⟩
def y_M_look : MethodName := ⟨"WireFieldModel", "look", "(I)I"⟩
def y_G_init : MethodName := ⟨"WireField$Grid", "<init>", "()V"⟩
def y_G_valueAt : MethodName := ⟨"WireField$Grid", "valueAt", "(II)I"⟩
def y_G_put : MethodName := ⟨"WireField$Grid", "put", "(III)V"⟩
def y_G_takeFrom : MethodName := ⟨"WireField$Grid", "takeFrom", "(LWireField$Grid;)V"⟩
def y_G_isSameAs : MethodName := ⟨"WireField$Grid", "isSameAs", "(LWireField$Grid;)Z"⟩
def y_G_count : MethodName := ⟨"WireField$Grid", "count", "(I)I"⟩
def y_G_becomeGenerationAfter : MethodName := ⟨"WireField$Grid", "becomeGenerationAfter", "(LWireField$Grid;)V"⟩
def y_G_besideOneOrTwoHeads : MethodName := ⟨"WireField$Grid", "besideOneOrTwoHeads", "(I)I"⟩
def y_Mo_init : MethodName := ⟨"WireField$Moment", "<init>", "()V"⟩
def y_Pe_init : MethodName := ⟨"WireField$Pen", "<init>", "()V"⟩
def y_Pe_begin : MethodName := ⟨"WireField$Pen", "begin", "(LWireField$Grid;III)V"⟩
def y_Pe_countOrder : MethodName := ⟨"WireField$Pen", "countOrder", "()Z"⟩
def y_Pe_obey : MethodName := ⟨"WireField$Pen", "obey", "(C)Z"⟩
def y_Pe_columnAt : MethodName := ⟨"WireField$Pen", "columnAt", "(II)I"⟩
def y_Pe_rowAt : MethodName := ⟨"WireField$Pen", "rowAt", "(II)I"⟩
def y_Pe_hasCell : MethodName := ⟨"WireField$Pen", "hasCell", "(II)Z"⟩
def y_Pe_mark : MethodName := ⟨"WireField$Pen", "mark", "(II)V"⟩
def y_Pe_move : MethodName := ⟨"WireField$Pen", "move", "(I)Z"⟩
def y_Pe_drawForward : MethodName := ⟨"WireField$Pen", "drawForward", "()Z"⟩
def y_Pe_putElectron : MethodName := ⟨"WireField$Pen", "putElectron", "()V"⟩
def y_Pe_drawDiode : MethodName := ⟨"WireField$Pen", "drawDiode", "()Z"⟩
def y_Pr_init : MethodName := ⟨"WireField$Probe", "<init>", "()V"⟩
def y_Pr_begin : MethodName := ⟨"WireField$Probe", "begin", "(II)V"⟩
def y_Pr_lookAt : MethodName := ⟨"WireField$Probe", "lookAt", "(LWireField$Grid;I)V"⟩
def y_So_init : MethodName := ⟨"WireField$Source", "<init>", "()V"⟩
def y_So_begin : MethodName := ⟨"WireField$Source", "begin", "(IIJI)V"⟩
def y_So_actOn : MethodName := ⟨"WireField$Source", "actOn", "(LWireField$Grid;)V"⟩
def y_Tx_init : MethodName := ⟨"WireField$Text", "<init>", "()V"⟩
def y_Tx_add : MethodName := ⟨"WireField$Text", "add", "(C)Z"⟩
def y_Tx_clear : MethodName := ⟨"WireField$Text", "clear", "()V"⟩
def y_Tx_takeFrom : MethodName := ⟨"WireField$Text", "takeFrom", "(LWireField$Text;)V"⟩
def y_Tx_signAt : MethodName := ⟨"WireField$Text", "signAt", "(I)C"⟩
def y_Tx_digitsAt : MethodName := ⟨"WireField$Text", "digitsAt", "(I)I"⟩
def y_Tx_timesAt : MethodName := ⟨"WireField$Text", "timesAt", "(I)I"⟩
def y_Tx_isDigit : MethodName := ⟨"WireField$Text", "isDigit", "(C)Z"⟩
def y_Tx_isOrders : MethodName := ⟨"WireField$Text", "isOrders", "(I)Z"⟩
def y_Tx_behindOrder : MethodName := ⟨"WireField$Text", "behindOrder", "(I)I"⟩
def y_Tx_heldMacros : MethodName := ⟨"WireField$Text", "heldMacros", "()I"⟩
def y_Tx_endOfOrders : MethodName := ⟨"WireField$Text", "endOfOrders", "(III)I"⟩
def y_Tx_endOfOrder : MethodName := ⟨"WireField$Text", "endOfOrder", "(III)I"⟩
def y_Tx_endOfBracket : MethodName := ⟨"WireField$Text", "endOfBracket", "(ICII)I"⟩
def y_Tx_isClosing : MethodName := ⟨"WireField$Text", "isClosing", "(C)Z"⟩
def y_Lw_draw : MethodName := ⟨"WireFieldLaw", "draw", "(LWireField;III[J)I"⟩
def y_Lw_macro : MethodName := ⟨"WireFieldLaw", "macro", "(LWireField;I)I"⟩
def y_Lw_seen : MethodName := ⟨"WireFieldLaw", "seen", "(LWireField;II[J)I"⟩
end
section
section JA
/-- the abstract heap: a list of cells, from the address b on -/
def jw (b : Nat) (σ : List va_E) : va_W := σ.mapIdx (fun k e => (b + k, e))
theorem jw_len (b : Nat) (σ : List va_E) : (jw b σ).length = σ.length := by simp [jw]
theorem jw_get (b : Nat) (σ : List va_E) (k : Nat) : (jw b σ)[k]? = (σ[k]?).map (fun e => (b + k, e)) := by simp [jw]
theorem jw_at {b : Nat} {σ : List va_E} {k : Nat} {e : va_E} (h : σ[k]? = some e) : (jw b σ)[k]? = some (b + k, e) := by rw [jw_get, h]; rfl
theorem jw_set (b : Nat) (σ : List va_E) (k : Nat) (e : va_E) : (jw b σ).set k (b + k, e) = jw b (σ.set k e) := by
  apply List.ext_getElem?
  intro i
  rw [List.getElem?_set, jw_get, jw_get, List.getElem?_set, jw_len]
  by_cases h : k = i
  · subst h
    by_cases h2 : k < σ.length <;> simp [h2]
  · simp [h]
theorem jw_push (b : Nat) (σ : List va_E) (e : va_E) : jw b (σ ++ [e]) = jw b σ ++ [(b + σ.length, e)] := by simp [jw, List.mapIdx_append]
theorem jw_D {b : Nat} {σ : List va_E} : va_D (fun q => b ≤ q) (jw b σ) := by
  refine ⟨fun i j p q hi hj hpq => ?_, fun k q hk => ?_⟩
  · rw [jw_get] at hi hj
    obtain ⟨e1, -, rfl⟩ := Option.map_eq_some_iff.mp hi
    obtain ⟨e2, -, rfl⟩ := Option.map_eq_some_iff.mp hj
    have h : b + i = b + j := hpq
    omega
  · rw [jw_get] at hk
    obtain ⟨e1, -, rfl⟩ := Option.map_eq_some_iff.mp hk
    exact Nat.le_add_right _ _
theorem js {α : Type} {σ : List α} {k : Nat} {e0 e : α} (h : σ[k]? = some e0) : (σ.set k e)[k]? = some e := by
  have h1 := (List.getElem?_eq_some_iff.mp h).1
  simp [h1]
theorem jn {α : Type} {σ : List α} {k i : Nat} {e e1 : α} (hne : k ≠ i) (h : σ[i]? = some e1) : (σ.set k e)[i]? = some e1 := by
  rw [List.getElem?_set_ne hne]; exact h
/-- the tables' words that go along into every callee, and those of nest mates -/
def jWS : List Cond := lw_tbl.filter goodWord
def jNst : Cond → Bool
  | .fieldLinkNest _ _ _ _ _ _ => true
  | .methodLinkNest _ _ _ _ => true
  | _ => false
def jNW : List Cond := lw_tbl.filter jNst
theorem jWS_in {w : Cond} (i : Nat) (h : lw_tbl[i]? = some w) (g : goodWord w = true) : w ∈ jWS := List.mem_filter.mpr ⟨List.mem_of_getElem? h, g⟩
theorem jNW_in {w : Cond} (i : Nat) (h : lw_tbl[i]? = some w) (g : jNst w = true) : w ∈ jNW := List.mem_filter.mpr ⟨List.mem_of_getElem? h, g⟩
theorem jNW_tab {w : Cond} (h : w ∈ jNW) : w.onTables = true := by
  have h1 := (List.mem_filter.mp h).2
  cases w <;> first | rfl | (simp [jNst] at h1)
theorem jNW_warm {w : Cond} (h : w ∈ jNW) {s U : State} (hW : s.WarmedH U.vm) (hZ : va_Nw w s) : va_Nw w U := by
  have h1 := (List.mem_filter.mp h).2
  cases w <;> first | exact va_Nw.warmF hW hZ | exact va_Nw.warmM hW hZ | (simp [jNst] at h1)
theorem jGood {w : Cond} (hc : w ∈ jWS) : GoodIn jWS (w :: jWS) := by
  intro v hv
  rcases List.mem_cons.mp hv with h | h
  · rw [h]; exact ⟨hc, good_of_word (List.mem_filter.mp hc).2⟩
  · exact ⟨h, good_of_word (List.mem_filter.mp h).2⟩
end JA
section JS
/-- the array types, by number -/
def jT (ta : Nat → ClassId) : List (ClassId × FieldType) := [(ta 0, .int), (ta 1, .char), (ta 2, .boolean), (ta 3, .long), (ta 4, .object "WireField$Text"), (ta 5, .object "WireField$Source"), (ta 6, .object "WireField$Probe"), (ta 7, .object "WireField$Moment")]
def jcs (j : Nat) : Int32 := [0, 1, 0, -1].getD j 0
def jrs (j : Nat) : Int32 := [-1, 0, 1, 0].getD j 0
/-- the bytes of the orders of one sign -/
def jord (j : Nat) : Int32 := [70, 66, 82, 76, 85, 68, 69, 87, 60].getD j 0
/-- what is known of statics: the steps -/
def jX1 (b : Nat) (U : State) (H : Heap) : Prop := ∃ t1 t2 : Nat, va_Z "WireField" "COLUMN_STEPS" "[I" (.ref t1) (fun q => b ≤ q) U H ∧ va_T .int t1 4 (fun j => .int (jcs j)) (fun q => b ≤ q) U H ∧ va_Z "WireField" "ROW_STEPS" "[I" (.ref t2) (fun q => b ≤ q) U H ∧ va_T .int t2 4 (fun j => .int (jrs j)) (fun q => b ≤ q) U H
/-- the text of the orders of one sign -/
def jStr (b aK aV : Nat) (U : State) (H : Heap) : Prop := va_O "java/lang/String" aK (fun q => b ≤ q) U H ∧ va_OF "java/lang/String" "coder" "B" (.int 0) aK (fun q => b ≤ q) U H ∧ va_OF "java/lang/String" "value" "[B" (.ref aV) aK (fun q => b ≤ q) U H ∧ va_T .byte aV 9 (fun j => .int (jord j)) (fun q => b ≤ q) U H ∧ va_Z "java/lang/String" "COMPACT_STRINGS" "Z" (.int 1) (fun q => b ≤ q) U H
def jX2 (b : Nat) (U : State) (H : Heap) : Prop := ∃ aK aV : Nat, vk_R "WireField$Text" 51 "FBRLUDEW<" aK U ∧ jStr b aK aV U H
/-- a static field that holds a reference or null, with its lay -/
def jLS (C n d : String) (b : Nat) (U : State) (H : Heap) : Prop := ∃ (c : ClassId) (k : Class) (i : Nat) (f : Field) (a : Nat) (cell : Cell) (v : Value), U.vm.findClass C = some c ∧ U.fieldFound? C n d = some (c, k, i, f) ∧ f.isStatic = true ∧ k.statics = some a ∧ H[a]? = some cell ∧ cell.vm.isStatics = true ∧ cell.cls = c ∧ f.slot < cell.slots.size ∧ k.staticTypes[f.slot]? = some f.type ∧ cell.slots[f.slot]? = some v ∧ v.isRef = true ∧ ¬ b ≤ a
/-- the texts of the class's throws -/
def jtx : List (Nat × String) := [(85, "there is no such cell or direction"), (100, "the line can not be drawn"), (116, "the line leads beyond the field or does too many orders"), (135, "there is no such macro"), (137, "the line can not be this macro"), (189, "there is no such probe or what")]
def jX3 (b : Nat) (U : State) (H : Heap) : Prop := (∀ q ∈ jtx, ∃ a : Nat, vk_R "WireField" q.1 q.2 a U) ∧ jLS "java/lang/Throwable" "UNASSIGNED_STACK" "[Ljava/lang/StackTraceElement;" b U H ∧ jLS "java/lang/Throwable" "SUPPRESSED_SENTINEL" "Ljava/util/List;" b U H
def jX (b : Nat) (U : State) (H : Heap) : Prop := jX1 b U H ∧ jX2 b U H ∧ jX3 b U H
theorem jLS.moved {C n d : String} {b : Nat} {u U : State} {H : Heap} (hvm : u.vm.Alike U.vm) (h : jLS C n d b u H) : jLS C n d b U H := by
  obtain ⟨c, k, i, f, a, cell, v, h1, h2, h3, h4, h5, h6, h7, h8, h9, h10⟩ := h
  obtain ⟨k', hi', he⟩ := State.fieldFound?_setVm hvm h2
  exact ⟨c, k', i, f, a, cell, v, by rw [hvm.findClass]; exact h1, hi', h3, by rw [he]; exact h4, h5, h6, h7, h8, by rw [he]; exact h9, h10⟩
theorem jLS.kept {C n d : String} {b : Nat} {U : State} {H H1 : Heap} (hk : ∀ a : Nat, a < H.size → ¬ b ≤ a → H1[a]? = H[a]?) (h : jLS C n d b U H) : jLS C n d b U H1 := by
  obtain ⟨c, k, i, f, a, cell, v, h1, h2, h3, h4, h5, h6, h7, h8, h9, h10, h11, h12⟩ := h
  exact ⟨c, k, i, f, a, cell, v, h1, h2, h3, h4, by rw [hk a (Array.getElem?_eq_some_iff.mp h5).1 h12]; exact h5, h6, h7, h8, h9, h10, h11, h12⟩
theorem jStr.moved {b aK aV : Nat} {u U : State} {H : Heap} (hvm : u.vm.Alike U.vm) (h : jStr b aK aV u H) : jStr b aK aV U H := ⟨va_O.moved hvm h.1, va_OF.moved hvm h.2.1, va_OF.moved hvm h.2.2.1, va_T.moved hvm h.2.2.2.1, va_Z.moved hvm h.2.2.2.2⟩
theorem jStr.kept {b aK aV : Nat} {U : State} {H H1 : Heap} (hk : ∀ a : Nat, a < H.size → ¬ b ≤ a → H1[a]? = H[a]?) (h : jStr b aK aV U H) : jStr b aK aV U H1 := ⟨h.1.kept hk, h.2.1.kept hk, h.2.2.1.kept hk, h.2.2.2.1.kept hk, h.2.2.2.2.kept hk⟩
theorem jX.warm {b : Nat} {s U : State} {H H1 : Heap} (hW : s.WarmedH U.vm) (hk : ∀ a : Nat, a < H.size → ¬ b ≤ a → H1[a]? = H[a]?) (h : jX b s H) : jX b U H1 := by
  obtain ⟨⟨t1, t2, h1, h2, h3, h4⟩, ⟨aK, aV, h5, h6⟩, h7, h8, h9⟩ := h
  have hA := hW.alike
  exact ⟨⟨t1, t2, va_Z.moved hA (h1.kept hk), va_T.moved hA (h2.kept hk), va_Z.moved hA (h3.kept hk), va_T.moved hA (h4.kept hk)⟩, ⟨aK, aV, vk_R.warm hW h5, (h6.kept hk).moved hA⟩, fun q hq => (h7 q hq).elim (fun a ha => ⟨a, vk_R.warm hW ha⟩), (h8.kept hk).moved hA, (h9.kept hk).moved hA⟩
theorem jX.same {b : Nat} {s U : State} {H : Heap} (hv : s.vm = U.vm) (h : jX b s H) : jX b U H := by
  obtain ⟨⟨t1, t2, h1, h2, h3, h4⟩, ⟨aK, aV, h5, h6⟩, h7, h8, h9⟩ := h
  have hA : s.vm.Alike U.vm := by rw [hv]; exact Vm.Alike.refl U.vm
  exact ⟨⟨t1, t2, va_Z.moved hA h1, va_T.moved hA h2, va_Z.moved hA h3, va_T.moved hA h4⟩, ⟨aK, aV, vk_R.same hv.symm h5, h6.moved hA⟩, fun q hq => (h7 q hq).elim (fun a ha => ⟨a, vk_R.same hv.symm ha⟩), h8.moved hA, h9.moved hA⟩
end JS
section JB
/-- what holds of the tables and of the statics in every frame -/
def jE (b : Nat) (D : va_G) (ta : Nat → ClassId) (U : State) (H : Heap) : Prop := va_K D vwCl (jT ta) U ∧ (∀ w ∈ jNW, va_Nw w U) ∧ jX b U H
theorem jE.warm {b : Nat} {D : va_G} {ta : Nat → ClassId} {s U : State} {H H1 : Heap} (hW : s.WarmedH U.vm) (hk : ∀ a : Nat, a < H.size → ¬ b ≤ a → H1[a]? = H[a]?) (h : jE b D ta s H) : jE b D ta U H1 :=
  ⟨va_K.moved hW.alike h.1, fun w hw => jNW_warm hw hW (h.2.1 w hw), jX.warm hW hk h.2.2⟩
theorem jE.same {b : Nat} {D : va_G} {ta : Nat → ClassId} {s U : State} {H : Heap} (hv : s.vm = U.vm) (h : jE b D ta s H) : jE b D ta U H :=
  ⟨va_K.moved (by rw [hv]; exact Vm.Alike.refl U.vm) h.1, fun w hw => va_Nw.same (jNW_tab hw) hv (h.2.1 w hw), jX.same hv h.2.2⟩
/-- program, env, room, state at the entry, method, args, frames below, method, code, what is owed at the end -/
abbrev jG : Type := Program × Env × Room × State × MethodId × Array Value × List Frame × Method × Code × (State → Prop)
def jB (l : Launch) (b : Nat) (D : va_G) (ta : Nat → ClassId) (Γ : jG) (own : String) (cc : ByteArray) (ret : Option FieldType) (nL : Nat) (rm : Room) : Prop :=
  Γ.1.tables.exec = Jvm.exec ∧ Γ.2.2.2.2.2.2.2.2.1.code = cc ∧ Γ.2.2.2.2.2.2.2.1.sig.returnType = ret ∧ Γ.2.2.2.2.2.2.2.2.1.maxLocals = nL ∧ Γ.2.2.2.1.vm.findClass own = some Γ.2.2.2.2.1.cls ∧ (∀ w ∈ jWS, w.before Γ.2.2.2.2.2.1 Γ.2.2.2.1 = true) ∧ jE b D ta Γ.2.2.2.1 Γ.2.2.2.1.heap ∧ Γ.2.2.2.2.2.2.2.1.locks = false ∧ Γ.2.2.1 = rm ∧ l = l
def jW (l : Launch) (b : Nat) (D : va_G) (Γ : jG) (ex : Prop) (cs ss nL : Nat) (σ : List va_E) (L : List (Nat × Value)) (pc : Nat) (st : List Value) : Prop :=
  ∀ (ls : Array Slot) (H : Heap) (locs : List Loc), lv_has ls nL L → va_P D vwCl (jw b σ) H → va_S (fun q => b ≤ q) Γ.2.2.2.1.heap H locs → (ex → H.size = b + σ.length) →
    W Γ.1 l Γ.2.1 Γ.2.2.1 Γ.2.2.2.1 Γ.2.2.2.2.1 Γ.2.2.2.2.2.1 Γ.2.2.2.2.2.2.1 Γ.2.2.2.2.2.2.2.1 Γ.2.2.2.2.2.2.2.2.1 H locs cs ss Γ.2.2.2.2.2.2.2.2.2 (F0 Γ.2.2.2.2.1 pc ls st)
def jQ (b : Nat) (D : va_G) (ex : Prop) (r : Option Value) (σ' : List va_E) : Array Value → State → Outcome → State → Prop := fun _ st oc t =>
  oc = .returned r ∧ va_P D vwCl (jw b σ') t.heap ∧ va_F (fun q => b ≤ q) st t ∧ (ex → t.heap.size = b + σ'.length)
/-- a contract: at these arguments and this heap the method returns r, and the heap is σ' -/
def jC (l : Launch) (b : Nat) (D : va_G) (ta : Nat → ClassId) (ex : Prop) (y : MethodName) (cb : ByteArray) (mL : Nat) (ret : Option FieldType) (rm : Room) (as : List Value) (σ : List va_E) (r : Option Value) (σ' : List va_E) : Prop :=
  Met l y (Cond.code y cb mL ret :: jWS) rm (va_Pc as (fun U => jE b D ta U U.heap ∧ va_P D vwCl (jw b σ) U.heap ∧ (ex → U.heap.size = b + σ.length))) (jQ b D ex r σ') rm.cells rm.slots (fun q => b ≤ q)
def jR (b : Nat) (D : va_G) (ex : Prop) (Γ : jG) (r : Option Value) (σ' : List va_E) (mc ms : Nat) : Prop :=
  Γ.2.2.2.2.2.2.2.2.2 = MQ Γ.2.2.2.2.2.2.1 (jQ b D ex r σ') Γ.2.2.2.2.2.1 Γ.2.2.2.1 mc ms (fun q => b ≤ q)
theorem jC_of {l : Launch} {b : Nat} {D : va_G} {ta : Nat → ClassId} {ex : Prop} {y : MethodName} {cb : ByteArray} {mL : Nat} {ret : Option FieldType} {rm : Room} {as : List Value} {σ : List va_E} {r : Option Value} {σ' : List va_E}
    (hy : plainName y.cls = true) (hlen : (lg_sl as).length ≤ mL) {own : String} (ho : y.cls = own)
    (body : ∀ Γ : jG, jB l b D ta Γ own cb ret mL rm → jR b D ex Γ r σ' rm.cells rm.slots → jW l b D Γ ex 0 0 mL σ (lv_args 0 as) 0 []) : jC l b D ta ex y cb mL ret rm as σ r σ' := by
  subst ho
  refine Met.ofW (cc := cb) (maxL := mL) (ret := ret) hy rfl ?_
  intro p e s m args below meth c s₁ B hml hv
  obtain ⟨rfl, hE, hP, hZ⟩ := hv
  have hts := atoms_spec (ws := Cond.code y cb mL ret :: jWS) B.pre
  have hl := lv_entry as (n := mL) hlen
  rw [lg_entry_eq]
  generalize (lg_sl as ++ List.replicate (mL - (lg_sl as).length) Slot.unset).toArray = ls at hl ⊢
  exact body (p, e, rm, s, m, as.toArray, below, meth, c, MQ below (jQ b D ex r σ') as.toArray s rm.cells rm.slots (fun q => b ≤ q))
    ⟨B.exec, B.bytes, B.returns, hml, findClass_of_methodNamed B.named, fun w h => hts w (List.mem_cons_of_mem _ h), hE, B.notSynchronized, rfl, rfl⟩ rfl ls s.heap [] hl hP va_S.rf hZ
variable {l : Launch} {b : Nat} {D : va_G} {ta : Nat → ClassId} {Γ : jG} {ex : Prop} {own : String} {cc : ByteArray} {ret : Option FieldType} {nL cs ss pc : Nat} {rm : Room} {σ : List va_E} {L : List (Nat × Value)} {rest : List Value}
theorem jW.widen {cs' ss' : Nat} (h1 : cs ≤ cs') (h2 : ss ≤ ss') (k : jW l b D Γ ex cs' ss' nL σ L pc rest) : jW l b D Γ ex cs ss nL σ L pc rest := fun ls H locs hl hP hS hZ => W.widen h1 h2 (k ls H locs hl hP hS hZ)
/-- fewer locals, another order -/
theorem jW.sub {L' : List (Nat × Value)} (ks : List Nat) (h : lv_pick L ks = L') (k : jW l b D Γ ex cs ss nL σ L' pc rest) : jW l b D Γ ex cs ss nL σ L pc rest := fun ls H locs hl hP hS hZ => k ls H locs (lv_sub hl ks h) hP hS hZ
theorem j_vret {σ' : List va_E} (B : jB l b D ta Γ own cc none nL rm) (K : jR b D ex Γ none σ' cs ss) (hσ : σ = σ') (hd : decode cc pc = .ok (.return_, 1)) : jW l b D Γ ex cs ss nL σ L pc [] := by
  subst hσ
  intro ls H locs hl hP hS hZ
  rw [show Γ.2.2.2.2.2.2.2.2.2 = _ from K]
  exact W.vret B.1 B.2.1 B.2.2.1 (fun t ht hW => ⟨rfl, by rw [ht]; exact hP, hS.F ht, fun h => by rw [ht]; exact hZ h⟩) hS.2.2 hd B.2.2.2.2.2.2.2.1
theorem j_iret {σ' : List va_E} {v v' : Int32} (B : jB l b D ta Γ own cc (some .int) nL rm) (K : jR b D ex Γ (some (.int v')) σ' cs ss) (hv : v = v') (hσ : σ = σ') (hd : decode cc pc = .ok (.ireturn, 1)) : jW l b D Γ ex cs ss nL σ L pc [.int v] := by
  subst hσ; subst hv
  intro ls H locs hl hP hS hZ
  rw [show Γ.2.2.2.2.2.2.2.2.2 = _ from K]
  exact W.iret B.1 B.2.1 B.2.2.1 (fun t ht hW => ⟨rfl, by rw [ht]; exact hP, hS.F ht, fun h => by rw [ht]; exact hZ h⟩) hS.2.2 hd B.2.2.2.2.2.2.2.1
theorem j_zret {σ' : List va_E} {v v' : Int32} {ty : FieldType} (B : jB l b D ta Γ own cc (some ty) nL rm) (K : jR b D ex Γ (some (.int v')) σ' cs ss) (hn : narrow ty (.int v) = .int v) (hv : v = v') (hσ : σ = σ') (hd : decode cc pc = .ok (.ireturn, 1)) : jW l b D Γ ex cs ss nL σ L pc [.int v] := by
  subst hσ; subst hv
  intro ls H locs hl hP hS hZ
  rw [show Γ.2.2.2.2.2.2.2.2.2 = _ from K]
  exact W.zret B.1 B.2.1 B.2.2.1 hn (fun t ht hW => ⟨rfl, by rw [ht]; exact hP, hS.F ht, fun h => by rw [ht]; exact hZ h⟩) hS.2.2 hd B.2.2.2.2.2.2.2.1
theorem j_lret {σ' : List va_E} {v v' : Int64} (B : jB l b D ta Γ own cc (some .long) nL rm) (K : jR b D ex Γ (some (.long v')) σ' cs ss) (hv : v = v') (hσ : σ = σ') (hd : decode cc pc = .ok (.lreturn, 1)) : jW l b D Γ ex cs ss nL σ L pc [.long v] := by
  subst hσ; subst hv
  intro ls H locs hl hP hS hZ
  rw [show Γ.2.2.2.2.2.2.2.2.2 = _ from K]
  exact W.lret B.1 B.2.1 B.2.2.1 (fun t ht hW => ⟨rfl, by rw [ht]; exact hP, hS.F ht, fun h => by rw [ht]; exact hZ h⟩) hS.2.2 hd B.2.2.2.2.2.2.2.1
theorem j_aret {σ' : List va_E} {a a' : Nat} {rt : FieldType} (B : jB l b D ta Γ own cc (some rt) nL rm) (hrt : (∃ n, rt = .object n) ∨ ∃ t, rt = .array t) (K : jR b D ex Γ (some (.ref a')) σ' cs ss) (hv : a = a') (hσ : σ = σ') (hd : decode cc pc = .ok (.areturn, 1)) : jW l b D Γ ex cs ss nL σ L pc [.ref a] := by
  subst hσ; subst hv
  intro ls H locs hl hP hS hZ
  rw [show Γ.2.2.2.2.2.2.2.2.2 = _ from K]
  exact W.aret B.1 B.2.1 B.2.2.1 hrt (Or.inr ⟨_, rfl⟩) (fun t ht hW => ⟨rfl, by rw [ht]; exact hP, hS.F ht, fun h => by rw [ht]; exact hZ h⟩) hS.2.2 hd B.2.2.2.2.2.2.2.1
/-- getfield; a nest mate's -/
theorem j_get (B : jB l b D ta Γ own cc ret nL rm) {ref C : String} {T : u_T} {N ci index : Nat} (hc : vwCl[ci]? = some (C, T, N)) (hin : ∀ w ∈ u_ws C T N, w ∈ jWS) (k : Nat) (hk : k < N) (href : (T k).1 = ref) (hlink : Cond.fieldLink own index ref (T k).2.1 (T k).2.2.1 ∈ jWS)
    {q : Nat} {fs : List Value} (hq : σ[q]? = some (.inr (ci, fs))) {v : Value} (hv : fs[k]? = some v) (hdg : decode cc pc = .ok (.getfield index, 3)) (kk : jW l b D Γ ex cs ss nL σ L (pc + 3) (v :: rest)) : jW l b D Γ ex cs ss nL σ L pc (.ref (b + q) :: rest) :=
  fun ls H locs hl hP hS hZ => va_get B.1 B.2.1 B.2.2.2.2.2.1 hin B.2.2.2.2.1 B.2.2.2.2.2.2.1.1 hP q (jw_at hq) hc k hk (B.2.2.2.2.2.1 _ hlink) (fun x h => by rw [← href]; exact h) hv hdg (kk ls H locs hl hP hS hZ)
theorem j_getN (B : jB l b D ta Γ own cc ret nL rm) {ref C host : String} {T : u_T} {N ci index : Nat} (hc : vwCl[ci]? = some (C, T, N)) (hin : ∀ w ∈ u_ws C T N, w ∈ jWS) (k : Nat) (hk : k < N) (href : (T k).1 = ref) (hlink : Cond.fieldLinkNest own index ref (T k).2.1 (T k).2.2.1 host ∈ jNW)
    {q : Nat} {fs : List Value} (hq : σ[q]? = some (.inr (ci, fs))) {v : Value} (hv : fs[k]? = some v) (hdg : decode cc pc = .ok (.getfield index, 3)) (kk : jW l b D Γ ex cs ss nL σ L (pc + 3) (v :: rest)) : jW l b D Γ ex cs ss nL σ L pc (.ref (b + q) :: rest) :=
  fun ls H locs hl hP hS hZ => va_getN B.1 B.2.1 B.2.2.2.2.2.1 hin B.2.2.2.2.1 B.2.2.2.2.2.2.1.1 hP q (jw_at hq) hc k hk (va_Nw.use (jNW_tab hlink) (B.2.2.2.2.2.2.1.2.1 _ hlink)) (fun x h => by rw [← href]; exact h) hv hdg (kk ls H locs hl hP hS hZ)
/-- putfield outside a constructor -/
theorem j_put (B : jB l b D ta Γ own cc ret nL rm) (hex : ¬ ex) {ref C : String} {T : u_T} {N ci index : Nat} (hc : vwCl[ci]? = some (C, T, N)) (hin : ∀ w ∈ u_ws C T N, w ∈ jWS) (ty0 : Nat → FieldType) (hty : ∀ k, k < N → parseFieldDescriptor (T k).2.2.1 = some (ty0 k)) (hnm : ∀ a, a < N → ∀ b, b < N → a ≠ b → (T a).2.1 ≠ (T b).2.1) (k : Nat) (hk : k < N) (href : (T k).1 = ref) (hlink : Cond.fieldLink own index ref (T k).2.1 (T k).2.2.1 ∈ jWS) (hfin : (T k).2.2.2 = false)
    {q : Nat} {fs : List Value} (hq : σ[q]? = some (.inr (ci, fs))) {v : Value} (hn : narrow (ty0 k) v = v) (hfit : fits (ty0 k) v = true) (hl : k < fs.length) (hdg : decode cc pc = .ok (.putfield index, 3)) (kk : jW l b D Γ ex cs ss nL (σ.set q (.inr (ci, fs.set k v))) L (pc + 3) rest) : jW l b D Γ ex cs ss nL σ L pc (v :: .ref (b + q) :: rest) :=
  fun ls H locs hll hP hS hZ => va_put B.1 B.2.1 B.2.2.2.2.2.1 hin ty0 hty hnm B.2.2.2.2.1 B.2.2.2.2.2.2.1.1 hP jw_D hS q (jw_at hq) hc k hk (B.2.2.2.2.2.1 _ hlink) (fun x h => by rw [← href]; exact h) hfin (hty k hk) hn hfit hl hdg
    (fun H1 locs1 hP1 _ hS1 => kk ls H1 locs1 hll (by rw [← jw_set]; exact hP1) hS1 (fun h => absurd h hex))
theorem j_putN (B : jB l b D ta Γ own cc ret nL rm) (hex : ¬ ex) {ref C host : String} {T : u_T} {N ci index : Nat} (hc : vwCl[ci]? = some (C, T, N)) (hin : ∀ w ∈ u_ws C T N, w ∈ jWS) (ty0 : Nat → FieldType) (hty : ∀ k, k < N → parseFieldDescriptor (T k).2.2.1 = some (ty0 k)) (hnm : ∀ a, a < N → ∀ b, b < N → a ≠ b → (T a).2.1 ≠ (T b).2.1) (k : Nat) (hk : k < N) (href : (T k).1 = ref) (hlink : Cond.fieldLinkNest own index ref (T k).2.1 (T k).2.2.1 host ∈ jNW) (hfin : (T k).2.2.2 = false)
    {q : Nat} {fs : List Value} (hq : σ[q]? = some (.inr (ci, fs))) {v : Value} (hn : narrow (ty0 k) v = v) (hfit : fits (ty0 k) v = true) (hl : k < fs.length) (hdg : decode cc pc = .ok (.putfield index, 3)) (kk : jW l b D Γ ex cs ss nL (σ.set q (.inr (ci, fs.set k v))) L (pc + 3) rest) : jW l b D Γ ex cs ss nL σ L pc (v :: .ref (b + q) :: rest) :=
  fun ls H locs hll hP hS hZ => va_putN B.1 B.2.1 B.2.2.2.2.2.1 hin ty0 hty hnm B.2.2.2.2.1 B.2.2.2.2.2.2.1.1 hP jw_D hS q (jw_at hq) hc k hk (va_Nw.use (jNW_tab hlink) (B.2.2.2.2.2.2.1.2.1 _ hlink)) (fun x h => by rw [← href]; exact h) hfin (hty k hk) hn hfit hl hdg
    (fun H1 locs1 hP1 _ hS1 => kk ls H1 locs1 hll (by rw [← jw_set]; exact hP1) hS1 (fun h => absurd h hex))
/-- arrays -/
theorem j_iald (B : jB l b D ta Γ own cc ret nL rm) {q n t : Nat} {f : Nat → Int32} {i : Int32} (ht : (jT ta)[t]? = some (ta t, .int)) (hq : σ[q]? = some (.inl (ta t, n, .inl f))) (hin : vp_in i n) (hdg : decode cc pc = .ok (.iaload, 1)) (kk : jW l b D Γ ex cs ss nL σ L (pc + 1) (.int (f i.toNatClampNeg) :: rest)) : jW l b D Γ ex cs ss nL σ L pc (.int i :: .ref (b + q) :: rest) :=
  fun ls H locs hl hP hS hZ => va_iald B.1 B.2.1 B.2.2.2.2.2.2.1.1 hP q t (jw_at hq) ht hin hdg (kk ls H locs hl hP hS hZ)
theorem j_zald (B : jB l b D ta Γ own cc ret nL rm) {q n t : Nat} {f : Nat → Int32} {i : Int32} (ht : (jT ta)[t]? = some (ta t, .boolean)) (hq : σ[q]? = some (.inl (ta t, n, .inl f))) (hin : vp_in i n) (hdg : decode cc pc = .ok (.baload, 1)) (kk : jW l b D Γ ex cs ss nL σ L (pc + 1) (.int (f i.toNatClampNeg) :: rest)) : jW l b D Γ ex cs ss nL σ L pc (.int i :: .ref (b + q) :: rest) :=
  fun ls H locs hl hP hS hZ => va_zald B.1 B.2.1 B.2.2.2.2.2.2.1.1 hP q t (jw_at hq) ht hin hdg (kk ls H locs hl hP hS hZ)
theorem j_cald (B : jB l b D ta Γ own cc ret nL rm) {q n t : Nat} {f : Nat → Int32} {i : Int32} (ht : (jT ta)[t]? = some (ta t, .char)) (hq : σ[q]? = some (.inl (ta t, n, .inl f))) (hin : vp_in i n) (hdg : decode cc pc = .ok (.caload, 1)) (kk : jW l b D Γ ex cs ss nL σ L (pc + 1) (.int (f i.toNatClampNeg) :: rest)) : jW l b D Γ ex cs ss nL σ L pc (.int i :: .ref (b + q) :: rest) :=
  fun ls H locs hl hP hS hZ => va_cald B.1 B.2.1 B.2.2.2.2.2.2.1.1 hP q t (jw_at hq) ht hin hdg (kk ls H locs hl hP hS hZ)
theorem j_lald (B : jB l b D ta Γ own cc ret nL rm) {q n t : Nat} {f : Nat → Int64} {i : Int32} (ht : (jT ta)[t]? = some (ta t, .long)) (hq : σ[q]? = some (.inl (ta t, n, .inr (.inl f)))) (hin : vp_in i n) (hdg : decode cc pc = .ok (.laload, 1)) (kk : jW l b D Γ ex cs ss nL σ L (pc + 1) (.long (f i.toNatClampNeg) :: rest)) : jW l b D Γ ex cs ss nL σ L pc (.int i :: .ref (b + q) :: rest) :=
  fun ls H locs hl hP hS hZ => va_lald B.1 B.2.1 B.2.2.2.2.2.2.1.1 hP q t (jw_at hq) ht hin hdg (kk ls H locs hl hP hS hZ)
theorem j_aald (B : jB l b D ta Γ own cc ret nL rm) {q n t : Nat} {C : String} {f : Nat → Option Nat} {i : Int32} {z : Nat} (ht : (jT ta)[t]? = some (ta t, .object C)) (hq : σ[q]? = some (.inl (ta t, n, .inr (.inr (.inr (.inr f)))))) (hin : vp_in i n) (hz : f i.toNatClampNeg = some z) (hdg : decode cc pc = .ok (.aaload, 1)) (kk : jW l b D Γ ex cs ss nL σ L (pc + 1) (.ref z :: rest)) : jW l b D Γ ex cs ss nL σ L pc (.int i :: .ref (b + q) :: rest) :=
  fun ls H locs hl hP hS hZ => va_aldq B.1 B.2.1 B.2.2.2.2.2.2.1.1 hP q t (jw_at hq) ht hin hdg (by rw [hz]; exact kk ls H locs hl hP hS hZ)
theorem j_iast (B : jB l b D ta Γ own cc ret nL rm) (hex : ¬ ex) {q n t : Nat} {f : Nat → Int32} {i x : Int32} (ht : (jT ta)[t]? = some (ta t, .int)) (hq : σ[q]? = some (.inl (ta t, n, .inl f))) (hin : vp_in i n) (hdg : decode cc pc = .ok (.iastore, 1)) (kk : jW l b D Γ ex cs ss nL (σ.set q (.inl (ta t, n, .inl (upd f i.toNatClampNeg x)))) L (pc + 1) rest) : jW l b D Γ ex cs ss nL σ L pc (.int x :: .int i :: .ref (b + q) :: rest) :=
  fun ls H locs hl hP hS hZ => va_iast B.1 B.2.1 B.2.2.2.2.2.2.1.1 hP jw_D hS q t (jw_at hq) ht hin hdg (fun H1 locs1 hP1 _ hS1 => kk ls H1 locs1 hl (by rw [← jw_set]; exact hP1) hS1 (fun h => absurd h hex))
theorem j_zast (B : jB l b D ta Γ own cc ret nL rm) (hex : ¬ ex) {q n t : Nat} {f : Nat → Int32} {i x : Int32} (ht : (jT ta)[t]? = some (ta t, .boolean)) (hq : σ[q]? = some (.inl (ta t, n, .inl f))) (hin : vp_in i n) (hdg : decode cc pc = .ok (.bastore, 1)) (kk : jW l b D Γ ex cs ss nL (σ.set q (.inl (ta t, n, .inl (upd f i.toNatClampNeg (vp_nar .boolean x))))) L (pc + 1) rest) : jW l b D Γ ex cs ss nL σ L pc (.int x :: .int i :: .ref (b + q) :: rest) :=
  fun ls H locs hl hP hS hZ => va_zast B.1 B.2.1 B.2.2.2.2.2.2.1.1 hP jw_D hS q t (jw_at hq) ht hin hdg (fun H1 locs1 hP1 _ hS1 => kk ls H1 locs1 hl (by rw [← jw_set]; exact hP1) hS1 (fun h => absurd h hex))
theorem j_cast (B : jB l b D ta Γ own cc ret nL rm) (hex : ¬ ex) {q n t : Nat} {f : Nat → Int32} {i x : Int32} (ht : (jT ta)[t]? = some (ta t, .char)) (hq : σ[q]? = some (.inl (ta t, n, .inl f))) (hin : vp_in i n) (hdg : decode cc pc = .ok (.castore, 1)) (kk : jW l b D Γ ex cs ss nL (σ.set q (.inl (ta t, n, .inl (upd f i.toNatClampNeg (vp_nar .char x))))) L (pc + 1) rest) : jW l b D Γ ex cs ss nL σ L pc (.int x :: .int i :: .ref (b + q) :: rest) :=
  fun ls H locs hl hP hS hZ => va_cast B.1 B.2.1 B.2.2.2.2.2.2.1.1 hP jw_D hS q t (jw_at hq) ht hin hdg (fun H1 locs1 hP1 _ hS1 => kk ls H1 locs1 hl (by rw [← jw_set]; exact hP1) hS1 (fun h => absurd h hex))
theorem j_last (B : jB l b D ta Γ own cc ret nL rm) (hex : ¬ ex) {q n t : Nat} {f : Nat → Int64} {i : Int32} {x : Int64} (ht : (jT ta)[t]? = some (ta t, .long)) (hq : σ[q]? = some (.inl (ta t, n, .inr (.inl f)))) (hin : vp_in i n) (hdg : decode cc pc = .ok (.lastore, 1)) (kk : jW l b D Γ ex cs ss nL (σ.set q (.inl (ta t, n, .inr (.inl (vp_updL f i.toNatClampNeg x))))) L (pc + 1) rest) : jW l b D Γ ex cs ss nL σ L pc (.long x :: .int i :: .ref (b + q) :: rest) :=
  fun ls H locs hl hP hS hZ => va_last B.1 B.2.1 B.2.2.2.2.2.2.1.1 hP jw_D hS q t (jw_at hq) ht hin hdg (fun H1 locs1 hP1 _ hS1 => kk ls H1 locs1 hl (by rw [← jw_set]; exact hP1) hS1 (fun h => absurd h hex))
theorem j_alen (B : jB l b D ta Γ own cc ret nL rm) {q t : Nat} {x : vp_A} {ty : FieldType} {v : Int32} (ht : (jT ta)[t]? = some (ta t, ty)) (hq : σ[q]? = some (.inl (ta t, x))) (hv : Int32.ofNat x.1 = v) (hdg : decode cc pc = .ok (.arraylength, 1)) (kk : jW l b D Γ ex cs ss nL σ L (pc + 1) (.int v :: rest)) : jW l b D Γ ex cs ss nL σ L pc (.ref (b + q) :: rest) :=
  fun ls H locs hl hP hS hZ => va_alen B.1 B.2.1 B.2.2.2.2.2.2.1.1 hP q t (jw_at hq) ht hv hdg (kk ls H locs hl hP hS hZ)
theorem j_copyi (B : jB l b D ta Γ own cc ret nL rm) (hex : ¬ ex) {index q q1 t : Nat} {n n1 : Nat} {f g : Nat → Int32} {ty : FieldType} {sp dp k : Int32} (hlink : Cond.methodLink own index arraycopyName ∈ jWS) (hnat : Cond.native arraycopyName ∈ jWS) (hstat : Cond.static arraycopyName ∈ jWS) (hini : Cond.initialized "java/lang/System" ∈ jWS)
    (ht : (jT ta)[t]? = some (ta t, ty)) (hprim : refKind ty = false) (hq : σ[q]? = some (.inl (ta t, n, .inl f))) (hq1 : σ[q1]? = some (.inl (ta t, n1, .inl g))) (h1 : ¬ sp < 0) (h2 : ¬ dp < 0) (h3 : ¬ k < 0) (h4 : sp.toNatClampNeg + k.toNatClampNeg ≤ n) (h5 : dp.toNatClampNeg + k.toNatClampNeg ≤ n1) (hfit : ∀ i, i < k.toNatClampNeg → fits ty (.int (f (sp.toNatClampNeg + i))) = true)
    (hframes : 1 ≤ rm.frames) (hlocals : (rest.map fun v => v.category).sum + (nativeFrameWords "java/lang/System" "arraycopy" 5 + 11) ≤ rm.locals) (hdg : decode cc pc = .ok (.invokestatic index, 3))
    (kk : jW l b D Γ ex cs ss nL (σ.set q1 (.inl (ta t, n1, .inl (va_cpy f g sp.toNatClampNeg dp.toNatClampNeg k.toNatClampNeg)))) L (pc + 3) rest) : jW l b D Γ ex cs ss nL σ L pc (.int k :: .int dp :: .ref (b + q1) :: .int sp :: .ref (b + q) :: rest) :=
  fun ls H locs hl hP hS hZ => va_copyi B.1 B.2.1 (B.2.2.2.1.trans hl.1.symm) B.2.2.2.2.1 (B.2.2.2.2.2.1 _ hlink) (B.2.2.2.2.2.1 _ hnat) (B.2.2.2.2.2.1 _ hstat) (B.2.2.2.2.2.1 _ hini) B.2.2.2.2.2.2.1.1 hP jw_D hS q q1 t t (jw_at hq) (jw_at hq1) ht ht hprim h1 h2 h3 h4 h5 hfit
    (by rw [B.2.2.2.2.2.2.2.2.1]; exact hframes) (by rw [B.2.2.2.2.2.2.2.2.1]; exact hlocals) hdg (fun H1 locs1 hP1 _ hS1 => kk ls H1 locs1 hl (by rw [← jw_set]; exact hP1) hS1 (fun h => absurd h hex))
/-- calls -/
theorem j_blind {as : List Value} {σ : List va_E} : FrameBlind (va_Pc as (fun U => jE b D ta U U.heap ∧ va_P D vwCl (jw b σ) U.heap ∧ (ex → U.heap.size = b + σ.length))) := fun a U g mk h => ⟨h.1, jE.same (s := U) rfl h.2.1, h.2.2.1, h.2.2.2⟩
theorem j_pre {as : List Value} (B : jB l b D ta Γ own cc ret nL rm) {H : Heap} {locs : List Loc} (hP : va_P D vwCl (jw b σ) H) (hS : va_S (fun q => b ≤ q) Γ.2.2.2.1.heap H locs) (hZ : ex → H.size = b + σ.length) (U : State) (hU : U.heap = H) (hW : Γ.2.2.2.1.WarmedH U.vm) : va_Pc as (fun U => jE b D ta U U.heap ∧ va_P D vwCl (jw b σ) U.heap ∧ (ex → U.heap.size = b + σ.length)) as.toArray U :=
  ⟨rfl, by rw [hU]; exact jE.warm hW hS.2.1 B.2.2.2.2.2.2.1, by rw [hU]; exact hP, by rw [hU]; exact hZ⟩
theorem j_go {p : Program} {e : Env} {R : Room} {s : State} {m : MethodId} {args : Array Value} {below : List Frame} {meth : Method} {c : Code} {H : Heap} {locs : List Loc} {Q : State → Prop} {mc ms : Nat} {ls : Array Slot} {st0 : List Value} {r : Option Value} {σ' : List va_E} {a : Array Value}
    (hr : va_Run p l e R s m args below meth c H locs cs ss mc ms (F0 m pc ls st0) rest (jQ b D ex r σ' a) (fun q => b ≤ q)) (hS : va_S (fun q => b ≤ q) s.heap H locs)
    (kk : ∀ (H1 : Heap) (locs1 : List Loc), va_P D vwCl (jw b σ') H1 → va_S (fun q => b ≤ q) s.heap H1 locs1 → (ex → H1.size = b + σ'.length) → W p l e R s m args below meth c H1 locs1 (cs + mc) (ss + ms) Q (F0 m (pc + 3) ls (r.toList ++ rest))) : W p l e R s m args below meth c H locs cs ss Q (F0 m pc ls st0) := by
  intro T hT X
  obtain ⟨v, st₀, t, T', L, h0, X', hL, e1, e2, ⟨hv, hp, ⟨hz, hk⟩, hx⟩, st⟩ := hr T hT X
  cases hv
  rw [h0] at hz hk
  obtain ⟨t2, a1, b1⟩ := kk T'.heap (locs ++ L) (by rw [e1]; exact hp)
    ⟨Nat.le_trans hS.1 (by rw [e1]; exact hz), fun q h1 h2 => by rw [e1, hk q (Nat.lt_of_lt_of_le h1 hS.1) h2]; exact hS.2.1 q h1 h2, fun q hq => by
      rcases List.mem_append.mp hq with h | h
      · exact hS.2.2 q h
      · exact hL q h⟩ (by rw [e1]; exact hx) T' rfl X'
  exact ⟨t2, st t2 a1, b1⟩
/-- the callee's facts: its code and class among the words, its name, how many arguments -/
def jY (y : MethodName) (cb : ByteArray) (mL : Nat) (ret : Option FieldType) (n : Nat) : Prop := Cond.code y cb mL ret ∈ jWS ∧ Cond.initialized y.cls ∈ jWS ∧ (y.cls ≠ "java/lang/invoke/MethodHandle" ∧ y.cls ≠ "java/lang/invoke/VarHandle" ∧ (parseMethodDescriptor y.desc).map (fun d => d.parameters.length) = some n)
variable {y : MethodName} {cb : ByteArray} {mL : Nat} {ret' : Option FieldType} {rm' : Room} {as : List Value} {r : Option Value} {σ' : List va_E} {st0 st1 : List Value} {n index q : Nat} {host : String}
theorem j_sum {m : MethodId} {ls : Array Slot} {st : List Value} (h : (rest.map fun v => v.category).sum ≤ 8) : 2 * (F0 m pc ls st).monitorRoom + (rest.map fun v => v.category).sum ≤ 8 := lv_room h
theorem j_callS (B : jB l b D ta Γ own cc ret nL rm) (hM : jC l b D ta ex y cb mL ret' rm' as σ r σ') (hY : jY y cb mL ret' n) (hlink : Cond.methodLink own index y ∈ jWS) (hst : Cond.static y ∈ jWS) (hn : as.length = n) (hR : rm'.frames + 1 ≤ rm.frames ∧ 8 + (mL + 11) + rm'.locals ≤ rm.locals) (hc : cs + rm'.cells ≤ rm.cells ∧ ss + rm'.slots ≤ rm.slots) (hs0 : st0 = as.reverse ++ rest) (hs1 : r.toList ++ rest = st1) (hsum : (rest.map fun v => v.category).sum ≤ 8)
    (hdg : decode cc pc = .ok (.invokestatic index, 3)) (kk : jW l b D Γ ex (cs + rm'.cells) (ss + rm'.slots) nL σ' L (pc + 3) st1) : jW l b D Γ ex cs ss nL σ L pc st0 := by
  subst hs0; subst hs1
  intro ls H locs hl hP hS hZ
  have hR1 : rm'.frames + 1 ≤ Γ.2.2.1.frames ∧ 8 + (mL + 11) + rm'.locals ≤ Γ.2.2.1.locals := by rw [B.2.2.2.2.2.2.2.2.1]; exact hR
  have hc1 : cs + rm'.cells ≤ Γ.2.2.1.cells ∧ ss + rm'.slots ≤ Γ.2.2.1.slots := by rw [B.2.2.2.2.2.2.2.2.1]; exact hc
  exact j_go (va_runS (bytes := cb) (maxL := mL) (ret := ret') ⟨B.1, B.2.1, B.2.2.2.1, B.2.2.2.2.1, B.2.2.2.2.2.1⟩ hM ⟨callB_of n B.2.2.2.2.2.1 (jGood hY.1) rfl rfl rfl (B.2.2.2.2.2.1 _ hY.2.1) (B.2.2.2.2.2.1 _ hlink) hY.2.2 hR1, B.2.2.2.2.2.1 _ hst⟩ ⟨j_blind, fun U hU hW => j_pre B hP hS hZ U hU hW⟩ rfl hn hl.1 rfl (j_sum hsum) hdg hc1) hS (fun H1 locs1 hP1 hS1 hZ1 => kk ls H1 locs1 hl hP1 hS1 hZ1)
theorem j_cn (B : jB l b D ta Γ own cc ret nL rm) (hY : jY y cb mL ret' n) (hlink : Cond.methodLinkNest own index y host ∈ jNW) (hR : rm'.frames + 1 ≤ rm.frames ∧ 8 + (mL + 11) + rm'.locals ≤ rm.locals) : va_CN Γ.2.2.1 Γ.2.2.2.1 Γ.2.2.2.2.2.1 own index y host cb mL ret' (Cond.code y cb mL ret' :: jWS) rm' rm'.cells rm'.slots n :=
  va_cnB n B.2.2.2.2.2.1 (jGood hY.1) rfl rfl rfl (B.2.2.2.2.2.2.1.2.1 _ hlink) (B.2.2.2.2.2.1 _ hY.2.1) hY.2.2 (by rw [B.2.2.2.2.2.2.2.2.1]; exact hR)
theorem j_callSN (B : jB l b D ta Γ own cc ret nL rm) (hM : jC l b D ta ex y cb mL ret' rm' as σ r σ') (hY : jY y cb mL ret' n) (hlink : Cond.methodLinkNest own index y host ∈ jNW) (hst : Cond.static y ∈ jWS) (hn : as.length = n) (hR : rm'.frames + 1 ≤ rm.frames ∧ 8 + (mL + 11) + rm'.locals ≤ rm.locals) (hc : cs + rm'.cells ≤ rm.cells ∧ ss + rm'.slots ≤ rm.slots) (hs0 : st0 = as.reverse ++ rest) (hs1 : r.toList ++ rest = st1) (hsum : (rest.map fun v => v.category).sum ≤ 8)
    (hdg : decode cc pc = .ok (.invokestatic index, 3)) (kk : jW l b D Γ ex (cs + rm'.cells) (ss + rm'.slots) nL σ' L (pc + 3) st1) : jW l b D Γ ex cs ss nL σ L pc st0 := by
  subst hs0; subst hs1
  intro ls H locs hl hP hS hZ
  have hR1 : rm'.frames + 1 ≤ Γ.2.2.1.frames ∧ 8 + (mL + 11) + rm'.locals ≤ Γ.2.2.1.locals := by rw [B.2.2.2.2.2.2.2.2.1]; exact hR
  have hc1 : cs + rm'.cells ≤ Γ.2.2.1.cells ∧ ss + rm'.slots ≤ Γ.2.2.1.slots := by rw [B.2.2.2.2.2.2.2.2.1]; exact hc
  exact j_go (va_runSN (bytes := cb) (maxL := mL) (ret := ret') (host := host) ⟨B.1, B.2.1, B.2.2.2.1, B.2.2.2.2.1, B.2.2.2.2.2.1⟩ hM ⟨j_cn B hY hlink hR, B.2.2.2.2.2.1 _ hst, trivial⟩ ⟨j_blind, fun U hU hW => j_pre B hP hS hZ U hU hW⟩ rfl hn hl.1 rfl (j_sum hsum) hdg hc1) hS (fun H1 locs1 hP1 hS1 hZ1 => kk ls H1 locs1 hl hP1 hS1 hZ1)
theorem j_callV {C : String} {T : u_T} {N ci : Nat} {fs : List Value} (B : jB l b D ta Γ own cc ret nL rm) (hM : jC l b D ta ex y cb mL ret' rm' (.ref (b + q) :: as) σ r σ') (hY : jY y cb mL ret' n) (hlink : Cond.methodLink own index y ∈ jWS) (hin : Cond.instanceMethod y ∈ jWS) (hse : Cond.selects C y y ∈ jWS) (hcl : vwCl[ci]? = some (C, T, N)) (hq : σ[q]? = some (.inr (ci, fs))) (hn : as.length = n) (hR : rm'.frames + 1 ≤ rm.frames ∧ 8 + (mL + 11) + rm'.locals ≤ rm.locals) (hc : cs + rm'.cells ≤ rm.cells ∧ ss + rm'.slots ≤ rm.slots) (hs0 : st0 = as.reverse ++ .ref (b + q) :: rest) (hs1 : r.toList ++ rest = st1) (hsum : (rest.map fun v => v.category).sum ≤ 8)
    (hdg : decode cc pc = .ok (.invokevirtual index, 3)) (kk : jW l b D Γ ex (cs + rm'.cells) (ss + rm'.slots) nL σ' L (pc + 3) st1) : jW l b D Γ ex cs ss nL σ L pc st0 := by
  subst hs0; subst hs1
  intro ls H locs hl hP hS hZ
  have hR1 : rm'.frames + 1 ≤ Γ.2.2.1.frames ∧ 8 + (mL + 11) + rm'.locals ≤ Γ.2.2.1.locals := by rw [B.2.2.2.2.2.2.2.2.1]; exact hR
  have hc1 : cs + rm'.cells ≤ Γ.2.2.1.cells ∧ ss + rm'.slots ≤ Γ.2.2.1.slots := by rw [B.2.2.2.2.2.2.2.2.1]; exact hc
  exact j_go (va_runV (bytes := cb) (maxL := mL) (ret := ret') (C := C) ⟨B.1, B.2.1, B.2.2.2.1, B.2.2.2.2.1, B.2.2.2.2.2.1⟩ hM ⟨callB_of n B.2.2.2.2.2.1 (jGood hY.1) rfl rfl rfl (B.2.2.2.2.2.1 _ hY.2.1) (B.2.2.2.2.2.1 _ hlink) hY.2.2 hR1, B.2.2.2.2.2.1 _ hin, B.2.2.2.2.2.1 _ hse⟩ ⟨j_blind, va_recv B.2.2.2.2.2.2.1.1 hP hcl (jw_at hq), fun U hU hW => j_pre B hP hS hZ U hU hW⟩ rfl hn hl.1 rfl (j_sum hsum) hdg hc1) hS (fun H1 locs1 hP1 hS1 hZ1 => kk ls H1 locs1 hl hP1 hS1 hZ1)
theorem j_callVN {C : String} {T : u_T} {N ci : Nat} {fs : List Value} (B : jB l b D ta Γ own cc ret nL rm) (hM : jC l b D ta ex y cb mL ret' rm' (.ref (b + q) :: as) σ r σ') (hY : jY y cb mL ret' n) (hlink : Cond.methodLinkNest own index y host ∈ jNW) (hin : Cond.instanceMethod y ∈ jWS) (hse : Cond.selects C y y ∈ jWS) (hcl : vwCl[ci]? = some (C, T, N)) (hq : σ[q]? = some (.inr (ci, fs))) (hn : as.length = n) (hR : rm'.frames + 1 ≤ rm.frames ∧ 8 + (mL + 11) + rm'.locals ≤ rm.locals) (hc : cs + rm'.cells ≤ rm.cells ∧ ss + rm'.slots ≤ rm.slots) (hs0 : st0 = as.reverse ++ .ref (b + q) :: rest) (hs1 : r.toList ++ rest = st1) (hsum : (rest.map fun v => v.category).sum ≤ 8)
    (hdg : decode cc pc = .ok (.invokevirtual index, 3)) (kk : jW l b D Γ ex (cs + rm'.cells) (ss + rm'.slots) nL σ' L (pc + 3) st1) : jW l b D Γ ex cs ss nL σ L pc st0 := by
  subst hs0; subst hs1
  intro ls H locs hl hP hS hZ
  have hR1 : rm'.frames + 1 ≤ Γ.2.2.1.frames ∧ 8 + (mL + 11) + rm'.locals ≤ Γ.2.2.1.locals := by rw [B.2.2.2.2.2.2.2.2.1]; exact hR
  have hc1 : cs + rm'.cells ≤ Γ.2.2.1.cells ∧ ss + rm'.slots ≤ Γ.2.2.1.slots := by rw [B.2.2.2.2.2.2.2.2.1]; exact hc
  exact j_go (va_runVN (bytes := cb) (maxL := mL) (ret := ret') (C := C) (host := host) ⟨B.1, B.2.1, B.2.2.2.1, B.2.2.2.2.1, B.2.2.2.2.2.1⟩ hM ⟨j_cn B hY hlink hR, B.2.2.2.2.2.1 _ hin, B.2.2.2.2.2.1 _ hse⟩ ⟨j_blind, va_recv B.2.2.2.2.2.2.1.1 hP hcl (jw_at hq), fun U hU hW => j_pre B hP hS hZ U hU hW⟩ rfl hn hl.1 rfl (j_sum hsum) hdg hc1) hS (fun H1 locs1 hP1 hS1 hZ1 => kk ls H1 locs1 hl hP1 hS1 hZ1)
theorem j_callI (B : jB l b D ta Γ own cc ret nL rm) (hM : jC l b D ta ex y cb mL none rm' (.ref (b + q) :: as) σ none σ') (hY : jY y cb mL none n) (hlink : Cond.methodLink own index y ∈ jWS) (hin : Cond.instanceMethod y ∈ jWS) (hy1 : y.name = "<init>") (hn : as.length = n) (hR : rm'.frames + 1 ≤ rm.frames ∧ 8 + (mL + 11) + rm'.locals ≤ rm.locals) (hc : cs + rm'.cells ≤ rm.cells ∧ ss + rm'.slots ≤ rm.slots) (hs0 : st0 = as.reverse ++ .ref (b + q) :: rest) (hsum : (rest.map fun v => v.category).sum ≤ 8)
    (hdg : decode cc pc = .ok (.invokespecial index, 3)) (kk : jW l b D Γ ex (cs + rm'.cells) (ss + rm'.slots) nL σ' L (pc + 3) rest) : jW l b D Γ ex cs ss nL σ L pc st0 := by
  subst hs0
  intro ls H locs hl hP hS hZ
  have hR1 : rm'.frames + 1 ≤ Γ.2.2.1.frames ∧ 8 + (mL + 11) + rm'.locals ≤ Γ.2.2.1.locals := by rw [B.2.2.2.2.2.2.2.2.1]; exact hR
  have hc1 : cs + rm'.cells ≤ Γ.2.2.1.cells ∧ ss + rm'.slots ≤ Γ.2.2.1.slots := by rw [B.2.2.2.2.2.2.2.2.1]; exact hc
  exact j_go (va_runI (bytes := cb) (maxL := mL) ⟨B.1, B.2.1, B.2.2.2.1, B.2.2.2.2.1, B.2.2.2.2.2.1⟩ hM ⟨callB_of n B.2.2.2.2.2.1 (jGood hY.1) rfl rfl rfl (B.2.2.2.2.2.1 _ hY.2.1) (B.2.2.2.2.2.1 _ hlink) hY.2.2 hR1, hy1, B.2.2.2.2.2.1 _ hin⟩ ⟨j_blind, fun U hU hW => j_pre B hP hS hZ U hU hW⟩ rfl hn hl.1 rfl (j_sum hsum) hdg hc1) hS (fun H1 locs1 hP1 hS1 hZ1 => kk ls H1 locs1 hl hP1 hS1 hZ1)
/-- in constructors: the heap's size is known -/
theorem j_new (B : jB l b D ta Γ own cc ret nL rm) (hex : ex) {C : String} {T : u_T} {N ci index : Nat} (hc : vwCl[ci]? = some (C, T, N)) (hin : ∀ w ∈ u_ws C T N, w ∈ jWS) (ty : Nat → FieldType) (hty : ∀ k, k < N → parseFieldDescriptor (T k).2.2.1 = some (ty k)) (hcl : Cond.classLink own index C ∈ jWS) (hinst : Cond.instantiable C N ∈ jWS) (hini : Cond.initialized C ∈ jWS)
    {fs : List Value} (hfs : ∀ j, j < N → defaultValue (ty j) = vp_V fs j) (hcells : cs + 1 ≤ rm.cells) (hslots : ss + N ≤ rm.slots) (hdg : decode cc pc = .ok (.new index, 3)) (kk : jW l b D Γ ex (cs + 1) (ss + N) nL (σ ++ [.inr (ci, fs)]) L (pc + 3) (.ref (b + σ.length) :: rest)) : jW l b D Γ ex cs ss nL σ L pc rest := by
  intro ls H locs hl hP hS hZ
  have hKn := B.2.2.2.2.2.2.1.1.1 ci _ hc
  have hsz := hZ hex
  have hRR := B.2.2.2.2.2.2.2.2.1
  refine W.newcK B.1 B.2.1 B.2.2.2.2.1 (B.2.2.2.2.2.1 _ hcl) (B.2.2.2.2.2.1 _ hinst) (B.2.2.2.2.2.1 _ hini) rfl hdg (by rw [hRR]; exact hcells) (by rw [hRR]; exact hslots) hKn.2.1 hsz fun H1 kC hkC e1 z1 o1 => ?_
  have hk : ∀ (k : Nat) (x : Nat × va_E), (jw b σ)[k]? = some x → H1[x.1]? = H[x.1]? := fun k x hx => o1 x.1 (by rw [← hsz]; exact (hP k x hx).lt)
  refine kk ls H1 locs hl ?_ ⟨Nat.le_trans hS.1 (by omega), fun x h1 h2 => (o1 x (by rw [← hsz]; exact Nat.lt_of_lt_of_le h1 hS.1)).trans (hS.2.1 x h1 h2), hS.2.2⟩ (fun _ => by rw [z1, List.length_append]; rfl)
  rw [jw_push]
  refine (hP.kept hk).app (fun k x hx => ?_)
  have hz : k < 1 := (List.getElem?_eq_some_iff.mp hx).1
  rw [show k = 0 by omega] at hx
  cases hx
  exact ⟨_, hc, (u_born ty B.2.2.2.2.2.1 hin hKn hkC e1 hty).to hfs⟩
theorem j_newa (B : jB l b D ta Γ own cc ret nL rm) (hex : ex) {atype : ArrayType} {t : Nat} (harr : Cond.arrayClass (newarray.typeOf atype) ∈ jWS) (ht : (jT ta)[t]? = some (ta t, newarray.typeOf atype)) {n : Int32} {N : Nat} {a0 : vp_A} (ha : ∀ cA : ClassId, vp_cell cA a0 = arrV cA N (fun _ => defaultValue (newarray.typeOf atype)))
    (hn : ¬ n < 0) (hN : n.toNatClampNeg = N) (hbytes : N * componentBytes (newarray.typeOf atype) ≤ 536870912) (hcells : cs + 1 ≤ rm.cells) (hslots : ss + N ≤ rm.slots) (hdg : decode cc pc = .ok (.newarray atype, 2)) (kk : jW l b D Γ ex (cs + 1) (ss + N) nL (σ ++ [.inl (ta t, a0)]) L (pc + 2) (.ref (b + σ.length) :: rest)) : jW l b D Γ ex cs ss nL σ L pc (.int n :: rest) := by
  intro ls H locs hl hP hS hZ
  have hsz := hZ hex
  have hRR := B.2.2.2.2.2.2.2.2.1
  refine va_newaK B.1 B.2.1 (B.2.2.2.2.2.1 _ harr) rfl hdg rfl hn hN hbytes (by rw [hRR]; exact hcells) (by rw [hRR]; exact hslots) hsz fun H1 cA e1 z1 o1 hAr hNm => ?_
  have hcA : cA = ta t := by
    have h9 := (B.2.2.2.2.2.2.1.1.2 t _ ht).2
    cases atype <;> exact Option.some.inj (hNm.symm.trans h9)
  subst hcA
  have hk : ∀ (k : Nat) (x : Nat × va_E), (jw b σ)[k]? = some x → H1[x.1]? = H[x.1]? := fun k x hx => o1 x.1 (by rw [← hsz]; exact (hP k x hx).lt)
  refine kk ls H1 locs hl ?_ ⟨Nat.le_trans hS.1 (by omega), fun x h1 h2 => (o1 x (by rw [← hsz]; exact Nat.lt_of_lt_of_le h1 hS.1)).trans (hS.2.1 x h1 h2), hS.2.2⟩ (fun _ => by rw [z1, List.length_append]; rfl)
  rw [jw_push]
  refine (hP.kept hk).app (fun k x hx => ?_)
  have hz : k < 1 := (List.getElem?_eq_some_iff.mp hx).1
  rw [show k = 0 by omega] at hx
  cases hx
  show H1[b + σ.length]? = some (vp_cell _ _)
  rw [ha]
  exact e1
theorem j_newq (B : jB l b D ta Γ own cc ret nL rm) (hex : ex) {C : String} {index t : Nat} (hcl : Cond.classLink own index C ∈ jWS) (hover : va_AO C Γ.2.2.2.1) (ht : (jT ta)[t]? = some (ta t, .object C)) {n : Int32} {N : Nat}
    (hn : ¬ n < 0) (hN : n.toNatClampNeg = N) (hbytes : N * 4 ≤ 536870912) (hcells : cs + 1 ≤ rm.cells) (hslots : ss + N ≤ rm.slots) (hdg : decode cc pc = .ok (.anewarray index, 3)) (kk : jW l b D Γ ex (cs + 1) (ss + N) nL (σ ++ [.inl (ta t, N, .inr (.inr (.inr (.inr (fun _ => none)))))]) L (pc + 3) (.ref (b + σ.length) :: rest)) : jW l b D Γ ex cs ss nL σ L pc (.int n :: rest) := by
  intro ls H locs hl hP hS hZ
  have hsz := hZ hex
  have hRR := B.2.2.2.2.2.2.2.2.1
  subst hN
  refine W.anew B.1 B.2.1 B.2.2.2.2.1 (B.2.2.2.2.2.1 _ hcl) (va_AO.use hover) rfl hdg rfl hn hbytes (by rw [hRR]; exact hcells) (by rw [hRR]; exact hslots) fun cA kA comp f1 f2 f3 f4 => ?_
  have hcA : cA = ta t := by
    obtain ⟨k9, c9, -, -, -, h9⟩ := (B.2.2.2.2.2.2.1.1.2 t _ ht).2
    exact Option.some.inj (f1.symm.trans h9)
  subst hcA
  generalize hH1 : H.push ({ cls := ta t, slots := Array.replicate n.toNatClampNeg .null, vm := .none } : Cell) = H1
  have z1 : H1.size = H.size + 1 := by rw [← hH1, Array.size_push]
  have e1 : H1[H.size]? = some (arrV (ta t) n.toNatClampNeg (fun _ => .null)) := by rw [← hH1, Array.getElem?_push_size, ← arrV_new]
  have o1 : ∀ q : Nat, q < H.size → H1[q]? = H[q]? := fun q hq => by rw [← hH1, Array.getElem?_push, if_neg (Nat.ne_of_lt hq)]
  rw [hsz] at e1 ⊢
  have hk : ∀ (k : Nat) (x : Nat × va_E), (jw b σ)[k]? = some x → H1[x.1]? = H[x.1]? := fun k x hx => o1 x.1 ((hP k x hx).lt)
  refine kk ls H1 locs hl ?_ ⟨Nat.le_trans hS.1 (by omega), fun x h1 h2 => (o1 x (Nat.lt_of_lt_of_le h1 hS.1)).trans (hS.2.1 x h1 h2), hS.2.2⟩ (fun _ => by rw [z1, hsz, List.length_append]; rfl)
  rw [jw_push]
  refine (hP.kept hk).app (fun k x hx => ?_)
  have hz : k < 1 := (List.getElem?_eq_some_iff.mp hx).1
  rw [show k = 0 by omega] at hx
  cases hx
  show H1[b + σ.length]? = some (vp_cell _ _)
  rw [vp_cell_q]
  exact e1
theorem j_objInit (B : jB l b D ta Γ own cc ret nL rm) {index a : Nat} (hlink : Cond.methodLink own index objectInit ∈ jWS) (hin : Cond.instanceMethod objectInit ∈ jWS) (hcode : Cond.code objectInit ⟨#[0xb1]⟩ 1 none ∈ jWS) (hframes : 1 ≤ rm.frames) (hlocals : (rest.map fun v => v.category).sum + 12 ≤ rm.locals) (hdg : decode cc pc = .ok (.invokespecial index, 3)) (kk : jW l b D Γ ex cs ss nL σ L (pc + 3) rest) : jW l b D Γ ex cs ss nL σ L pc (.ref a :: rest) := by
  intro ls H locs hl hP hS hZ
  have hRR := B.2.2.2.2.2.2.2.2.1
  exact W.objInit B.1 B.2.1 B.2.2.2.2.1 (B.2.2.2.2.2.1 _ hlink) (B.2.2.2.2.2.1 _ hin) (B.2.2.2.2.2.1 _ hcode) rfl (hl.1.trans B.2.2.2.1.symm) rfl hdg (by rw [hRR]; exact hframes) (by rw [hRR]; show 2 * 0 + _ + _ ≤ _; omega) (kk ls H locs hl hP hS hZ)
/-- putfield in a constructor: a final field, another one -/
theorem j_putF (B : jB l b D ta Γ own cc ret nL rm) (hme : Γ.2.2.2.2.2.2.2.1.name = "<init>") {ref C : String} {T : u_T} {N ci index : Nat} (hc : vwCl[ci]? = some (C, T, N)) (hin : ∀ w ∈ u_ws C T N, w ∈ jWS) (ty0 : Nat → FieldType) (hty : ∀ k, k < N → parseFieldDescriptor (T k).2.2.1 = some (ty0 k)) (hnm : ∀ a, a < N → ∀ b, b < N → a ≠ b → (T a).2.1 ≠ (T b).2.1) (k : Nat) (hk : k < N) (href : (T k).1 = ref) (hlink : Cond.fieldLink own index ref (T k).2.1 (T k).2.2.1 ∈ jWS) (hfin : (T k).2.2.2 = true) (hdecl : (T k).1 = own)
    {q : Nat} {fs : List Value} (hq : σ[q]? = some (.inr (ci, fs))) {v : Value} (hn : narrow (ty0 k) v = v) (hfit : fits (ty0 k) v = true) (hl : k < fs.length) (hdg : decode cc pc = .ok (.putfield index, 3)) (kk : jW l b D Γ ex cs ss nL (σ.set q (.inr (ci, fs.set k v))) L (pc + 3) rest) : jW l b D Γ ex cs ss nL σ L pc (v :: .ref (b + q) :: rest) := by
  intro ls H locs hll hP hS0 hZ
  have hts := B.2.2.2.2.2.1
  have hK := B.2.2.2.2.2.2.1.1
  have hown := B.2.2.2.2.1
  have he := jw_at (b := b) hq
  have hD : va_D (fun q => b ≤ q) (jw b σ) := jw_D
  have hap := va_apart (own := own) hts hin ty0 hty hnm hK hc
  obtain ⟨r, h1, cell, q1, q2, q3, q4⟩ := hP q _ he
  have hr : r = (C, T, N) := Option.some.inj (h1.symm.trans hc)
  subst hr
  obtain ⟨hS, hfc, kC, hkC, hkind⟩ := hK.1 ci _ hc
  obtain ⟨cf, kf, fi, f, hi, hsl⟩ := hS k hk
  have hlay := hts _ (hin _ (u_in_lay hk))
  unfold u_lay at hlay
  rw [if_pos hfin] at hlay
  have hst := (u_facts hfc hkC (u_lays hts hin hk) hi).1
  have hcf : Γ.2.2.2.2.1.cls = cf := by
    obtain ⟨_, _, c', _, _, _, -, -, hf', -, -, -, hown2, -⟩ := Cond.laysFinal_spec hlay
    have e1 : c' = cf := by have := hi.symm.trans hf'; simp at this; exact this.1.symm
    rw [hdecl] at hown2
    rw [← e1]; exact Option.some.inj (hown.symm.trans hown2)
  have h6 := u_fits hfc hkC hkind (Or.inr hlay) hi (hty k hk) hn hfit
  refine W.putFinK B.1 B.2.1 hown (hts _ hlink) (by rw [← href]; exact hi) hst hcf hme (by rw [q2]; exact h6) q1 q3 (by rw [hsl]; exact k2_hasslot (q4 k hk)) rfl rfl hdg fun H' e1 e2 e3 => ?_
  rw [hsl] at e1 ⊢
  refine kk ls H' _ hll ?_ (hS0.put e2 e3 (hD.2 q _ he)) (fun h => by rw [e2, List.length_set]; exact hZ h)
  rw [← jw_set]
  exact hP.set hD he ⟨_, hc, t_OB.to (V := updV (vp_V fs) k v) ⟨_, e1, q2, q3, t_set q4 hap hk v⟩ (fun j _ => vp_updV_set hl v j)⟩ e3
theorem j_putX (B : jB l b D ta Γ own cc ret nL rm) {ref C : String} {T : u_T} {N ci index : Nat} (hc : vwCl[ci]? = some (C, T, N)) (hin : ∀ w ∈ u_ws C T N, w ∈ jWS) (ty0 : Nat → FieldType) (hty : ∀ k, k < N → parseFieldDescriptor (T k).2.2.1 = some (ty0 k)) (hnm : ∀ a, a < N → ∀ b, b < N → a ≠ b → (T a).2.1 ≠ (T b).2.1) (k : Nat) (hk : k < N) (href : (T k).1 = ref) (hlink : Cond.fieldLink own index ref (T k).2.1 (T k).2.2.1 ∈ jWS) (hfin : (T k).2.2.2 = false)
    {q : Nat} {fs : List Value} (hq : σ[q]? = some (.inr (ci, fs))) {v : Value} (hn : narrow (ty0 k) v = v) (hfit : fits (ty0 k) v = true) (hl : k < fs.length) (hdg : decode cc pc = .ok (.putfield index, 3)) (kk : jW l b D Γ ex cs ss nL (σ.set q (.inr (ci, fs.set k v))) L (pc + 3) rest) : jW l b D Γ ex cs ss nL σ L pc (v :: .ref (b + q) :: rest) := by
  intro ls H locs hll hP hS0 hZ
  have hts := B.2.2.2.2.2.1
  have hK := B.2.2.2.2.2.2.1.1
  have hown := B.2.2.2.2.1
  have he := jw_at (b := b) hq
  have hD : va_D (fun q => b ≤ q) (jw b σ) := jw_D
  have hap := va_apart (own := own) hts hin ty0 hty hnm hK hc
  obtain ⟨r, h1, cell, q1, q2, q3, q4⟩ := hP q _ he
  have hr : r = (C, T, N) := Option.some.inj (h1.symm.trans hc)
  subst hr
  obtain ⟨hS, hfc, kC, hkC, hkind⟩ := hK.1 ci _ hc
  obtain ⟨cf, kf, fi, f, hi, hsl⟩ := hS k hk
  have hlay := hts _ (hin _ (u_in_lay hk))
  unfold u_lay at hlay
  rw [if_neg (by rw [hfin]; decide)] at hlay
  have hst := (u_facts hfc hkC (u_lays hts hin hk) hi).1
  have h6 := u_store hfc hkC hkind hlay hi (hty k hk) hn hfit
  refine W.putK B.1 B.2.1 (f := f) ⟨hown, hts _ hlink, ⟨_, _, _, by rw [← href]; exact hi⟩, hst⟩ (by rw [q2]; exact h6) q1 q3 (by rw [hsl]; exact k2_hasslot (q4 k hk)) rfl rfl hdg fun H' e1 e2 e3 => ?_
  rw [hsl] at e1 ⊢
  refine kk ls H' _ hll ?_ (hS0.put e2 e3 (hD.2 q _ he)) (fun h => by rw [e2, List.length_set]; exact hZ h)
  rw [← jw_set]
  exact hP.set hD he ⟨_, hc, t_OB.to (V := updV (vp_V fs) k v) ⟨_, e1, q2, q3, t_set q4 hap hk v⟩ (fun j _ => vp_updV_set hl v j)⟩ e3
theorem j_aastX (B : jB l b D ta Γ own cc ret nL rm) {q qk n t ci : Nat} {rc : vw_C} {vs : List Value} {f : Nat → Option Nat} {i : Int32} (hc : vwCl[ci]? = some rc) (ht : (jT ta)[t]? = some (ta t, .object rc.1)) (hq : σ[q]? = some (.inl (ta t, n, .inr (.inr (.inr (.inr f)))))) (hv : σ[qk]? = some (.inr (ci, vs))) (hin : vp_in i n) (hdg : decode cc pc = .ok (.aastore, 1))
    (kk : jW l b D Γ ex cs ss nL (σ.set q (.inl (ta t, n, .inr (.inr (.inr (.inr (va_up f i.toNatClampNeg (some (b + qk))))))))) L (pc + 1) rest) : jW l b D Γ ex cs ss nL σ L pc (.ref (b + qk) :: .int i :: .ref (b + q) :: rest) := by
  intro ls H locs hll hP hS hZ
  have hK := B.2.2.2.2.2.2.1.1
  have ha := jw_at (b := b) hq
  have hD : va_D (fun q => b ≤ q) (jw b σ) := jw_D
  have hlt : i.toNatClampNeg < n := Nat.not_le.mp fun q => hin (Or.inr q)
  have h0 : ¬ i < 0 := fun q => hin (Or.inl q)
  obtain ⟨r', hr', cellV, g1, g2, g3, -⟩ := hP qk _ (jw_at (b := b) hv)
  have hcls := (hK.1 ci rc hc).2
  obtain ⟨kA, comp, k1, k2, k3, -⟩ := (hK.2 t _ ht).2
  have hcomp : comp = D.1 ci := Option.some.inj (k3.symm.trans hcls.1)
  subst hcomp
  obtain ⟨kC, hkC, -⟩ := hcls.2
  refine W.aast B.1 B.2.1 (hP q _ ha) (fun q h => by cases h) (fun h => by cases h) k1 k2 rfl hkC ⟨h0, by show _ < (arrV _ _ _).slots.size; rw [arrV_size]; exact hlt⟩ g1 (fun q h => by rw [g3] at h; cases h) (by rw [g2]; exact hkC) (by rw [g2]; exact va_assign hcls) rfl rfl hdg fun H1 e z oq => ?_
  refine kk ls H1 _ hll ?_ (hS.put z oq (hD.2 q _ ha)) (fun h => by rw [z, List.length_set]; exact hZ h)
  rw [← jw_set]
  refine hP.set hD ha ?_ oq
  show H1[b + q]? = some (vp_cell _ _)
  rw [e]
  rw [vp_cell_q, vp_cell_q, arrV_store]
  congr 2
  funext z9
  by_cases hq9 : z9 = i.toNatClampNeg
  · subst hq9
    simp [updV, va_up, va_rf]
  · simp [updV, va_up, hq9]
theorem j_callIN (B : jB l b D ta Γ own cc ret nL rm) (hM : jC l b D ta ex y cb mL none rm' (.ref (b + q) :: as) σ none σ') (hY : jY y cb mL none n) (hlink : Cond.methodLinkNest own index y host ∈ jNW) (hin : Cond.instanceMethod y ∈ jWS) (hy1 : y.name = "<init>") (hn : as.length = n) (hR : rm'.frames + 1 ≤ rm.frames ∧ 8 + (mL + 11) + rm'.locals ≤ rm.locals) (hc : cs + rm'.cells ≤ rm.cells ∧ ss + rm'.slots ≤ rm.slots) (hs0 : st0 = as.reverse ++ .ref (b + q) :: rest) (hsum : (rest.map fun v => v.category).sum ≤ 8)
    (hdg : decode cc pc = .ok (.invokespecial index, 3)) (kk : jW l b D Γ ex (cs + rm'.cells) (ss + rm'.slots) nL σ' L (pc + 3) rest) : jW l b D Γ ex cs ss nL σ L pc st0 := by
  subst hs0
  intro ls H locs hl hP hS hZ
  have hR1 : rm'.frames + 1 ≤ Γ.2.2.1.frames ∧ 8 + (mL + 11) + rm'.locals ≤ Γ.2.2.1.locals := by rw [B.2.2.2.2.2.2.2.2.1]; exact hR
  have hc1 : cs + rm'.cells ≤ Γ.2.2.1.cells ∧ ss + rm'.slots ≤ Γ.2.2.1.slots := by rw [B.2.2.2.2.2.2.2.2.1]; exact hc
  exact j_go (va_runIN (bytes := cb) (maxL := mL) (host := host) ⟨B.1, B.2.1, B.2.2.2.1, B.2.2.2.2.1, B.2.2.2.2.2.1⟩ hM ⟨j_cn B hY hlink hR, hy1, B.2.2.2.2.2.1 _ hin⟩ ⟨j_blind, fun U hU hW => j_pre B hP hS hZ U hU hW⟩ rfl hn hl.1 rfl (j_sum hsum) hdg hc1) hS (fun H1 locs1 hP1 hS1 hZ1 => kk ls H1 locs1 hl hP1 hS1 hZ1)
theorem j_lcmp (B : jB l b D ta Γ own cc ret nL rm) {x y : Int64} (hdg : decode cc pc = .ok (.lcmp, 1)) (kk : jW l b D Γ ex cs ss nL σ L (pc + 1) (.int (lg_cmp x y) :: rest)) : jW l b D Γ ex cs ss nL σ L pc (.long y :: .long x :: rest) := fun ls H locs hl hP hS hZ => W.lcmp B.1 B.2.1 hdg (kk ls H locs hl hP hS hZ)
theorem j_mmax (B : jB l b D ta Γ own cc ret nL rm) {index : Nat} (hlink : Cond.methodLink own index Lib.Math.max.name ∈ jWS) (hst : Cond.static Lib.Math.max.name ∈ jWS) (hini : Cond.initialized "java/lang/Math" ∈ jWS) (hcode : Cond.code Lib.Math.max.name Lib.Math.max.code 2 (some .int) ∈ jWS) (hframes : 1 ≤ rm.frames) (hlocals : (rest.map fun v => v.category).sum + 13 ≤ rm.locals) (hc : cs ≤ rm.cells) (hs : ss ≤ rm.slots) {x y : Int32} (hdg : decode cc pc = .ok (.invokestatic index, 3)) (kk : jW l b D Γ ex cs ss nL σ L (pc + 3) (.int (if x < y then y else x) :: rest)) : jW l b D Γ ex cs ss nL σ L pc (.int y :: .int x :: rest) :=
  fun ls H locs hl hP hS hZ => va_mmax B.1 B.2.1 (B.2.2.2.1.trans hl.1.symm) B.2.2.2.2.1 (B.2.2.2.2.2.1 _ hlink) (B.2.2.2.2.2.1 _ hst) (B.2.2.2.2.2.1 _ hini) (B.2.2.2.2.2.1 _ hcode) (by rw [B.2.2.2.2.2.2.2.2.1]; exact hframes) (by rw [B.2.2.2.2.2.2.2.2.1]; exact hlocals) (by rw [B.2.2.2.2.2.2.2.2.1]; exact hc) (by rw [B.2.2.2.2.2.2.2.2.1]; exact hs) hdg (kk ls H locs hl hP hS hZ)
theorem j_topi {x : Int32} (k : ∀ y : Int32, y = x → jW l b D Γ ex cs ss nL σ L pc (.int y :: rest)) : jW l b D Γ ex cs ss nL σ L pc (.int x :: rest) := k x rfl
theorem j_topl {x : Int64} (k : ∀ y : Int64, y = x → jW l b D Γ ex cs ss nL σ L pc (.long y :: rest)) : jW l b D Γ ex cs ss nL σ L pc (.long x :: rest) := k x rfl
end JB
section JR
variable {l : Launch} {b : Nat} {D : va_G} {ta : Nat → ClassId} {Γ : jG} {ex : Prop} {own : String} {cc : ByteArray} {ret : Option FieldType} {nL cs ss pc : Nat} {rm : Room} {σ : List va_E} {L : List (Nat × Value)} {rest : List Value}
theorem j_iconst (B : jB l b D ta Γ own cc ret nL rm) {n : Int} {v : Int32} (hdg : decode cc pc = .ok (.iconst n, 1)) (hv : Int32.ofInt n = v) (kk : jW l b D Γ ex cs ss nL σ L (pc + 1) (.int v :: rest)) : jW l b D Γ ex cs ss nL σ L pc (rest) := fun ls H locs hl hP hS hZ => lv_iconst B.1 B.2.1 hdg hv (kk ls H locs hl hP hS hZ)
theorem j_bipush (B : jB l b D ta Γ own cc ret nL rm) {n : Int} {v : Int32} (hdg : decode cc pc = .ok (.bipush n, 2)) (hv : (Int8.ofInt n).toInt32 = v) (kk : jW l b D Γ ex cs ss nL σ L (pc + 2) (.int v :: rest)) : jW l b D Γ ex cs ss nL σ L pc (rest) := fun ls H locs hl hP hS hZ => lv_bipush B.1 B.2.1 hdg hv (kk ls H locs hl hP hS hZ)
theorem j_sipush (B : jB l b D ta Γ own cc ret nL rm) {n : Int} {v : Int32} (hdg : decode cc pc = .ok (.sipush n, 3)) (hv : (Int16.ofInt n).toInt32 = v) (kk : jW l b D Γ ex cs ss nL σ L (pc + 3) (.int v :: rest)) : jW l b D Γ ex cs ss nL σ L pc (rest) := fun ls H locs hl hP hS hZ => lv_sipush B.1 B.2.1 hdg hv (kk ls H locs hl hP hS hZ)
theorem j_lconst (B : jB l b D ta Γ own cc ret nL rm) {n : Fin 2} {v : Int64} (hdg : decode cc pc = .ok (.lconst n, 1)) (hv : Int64.ofNat (n : Nat) = v) (kk : jW l b D Γ ex cs ss nL σ L (pc + 1) (.long v :: rest)) : jW l b D Γ ex cs ss nL σ L pc (rest) := fun ls H locs hl hP hS hZ => lv_lconst B.1 B.2.1 hdg hv (kk ls H locs hl hP hS hZ)
theorem j_iload_n (B : jB l b D ta Γ own cc ret nL rm) {k : Fin 4} {i : Nat} {x : Int32} (hdg : decode cc pc = .ok (.iload_n k, 1)) (hi : (k : Nat) = i) (q : Nat) (hq : L[q]? = some (i, (.int x))) (kk : jW l b D Γ ex cs ss nL σ L (pc + 1) (.int x :: rest)) : jW l b D Γ ex cs ss nL σ L pc (rest) := fun ls H locs hl hP hS hZ => lv_iload_n B.1 B.2.1 hdg hi (lv_at hl q hq) (kk ls H locs hl hP hS hZ)
theorem j_iload (B : jB l b D ta Γ own cc ret nL rm) {i : Nat} {x : Int32} (hdg : decode cc pc = .ok (.iload i, 2)) (q : Nat) (hq : L[q]? = some (i, (.int x))) (kk : jW l b D Γ ex cs ss nL σ L (pc + 2) (.int x :: rest)) : jW l b D Γ ex cs ss nL σ L pc (rest) := fun ls H locs hl hP hS hZ => lv_iload B.1 B.2.1 hdg (lv_at hl q hq) (kk ls H locs hl hP hS hZ)
theorem j_lload_n (B : jB l b D ta Γ own cc ret nL rm) {k : Fin 4} {i : Nat} {x : Int64} (hdg : decode cc pc = .ok (.lload_n k, 1)) (hi : (k : Nat) = i) (q : Nat) (hq : L[q]? = some (i, (.long x))) (kk : jW l b D Γ ex cs ss nL σ L (pc + 1) (.long x :: rest)) : jW l b D Γ ex cs ss nL σ L pc (rest) := fun ls H locs hl hP hS hZ => lv_lload_n B.1 B.2.1 hdg hi (lv_at hl q hq) (kk ls H locs hl hP hS hZ)
theorem j_lload (B : jB l b D ta Γ own cc ret nL rm) {i : Nat} {x : Int64} (hdg : decode cc pc = .ok (.lload i, 2)) (q : Nat) (hq : L[q]? = some (i, (.long x))) (kk : jW l b D Γ ex cs ss nL σ L (pc + 2) (.long x :: rest)) : jW l b D Γ ex cs ss nL σ L pc (rest) := fun ls H locs hl hP hS hZ => lv_lload B.1 B.2.1 hdg (lv_at hl q hq) (kk ls H locs hl hP hS hZ)
theorem j_aload_n (B : jB l b D ta Γ own cc ret nL rm) {k : Fin 4} {i : Nat} {x : Nat} (hdg : decode cc pc = .ok (.aload_n k, 1)) (hi : (k : Nat) = i) (q : Nat) (hq : L[q]? = some (i, (.ref x))) (kk : jW l b D Γ ex cs ss nL σ L (pc + 1) (.ref x :: rest)) : jW l b D Γ ex cs ss nL σ L pc (rest) := fun ls H locs hl hP hS hZ => lv_aload_n B.1 B.2.1 hdg hi (lv_at hl q hq) (kk ls H locs hl hP hS hZ)
theorem j_aload (B : jB l b D ta Γ own cc ret nL rm) {i : Nat} {x : Nat} (hdg : decode cc pc = .ok (.aload i, 2)) (q : Nat) (hq : L[q]? = some (i, (.ref x))) (kk : jW l b D Γ ex cs ss nL σ L (pc + 2) (.ref x :: rest)) : jW l b D Γ ex cs ss nL σ L pc (rest) := fun ls H locs hl hP hS hZ => lv_aload B.1 B.2.1 hdg (lv_at hl q hq) (kk ls H locs hl hP hS hZ)
theorem j_istore_n (B : jB l b D ta Γ own cc ret nL rm) {L' : List (Nat × Value)} {k : Fin 4} {i : Nat} {x : Int32} (hdg : decode cc pc = .ok (.istore_n k, 1)) (hi : (k : Nat) = i) (hn : i < nL) (ks : List Nat) (hks : lv_pick ((i, Value.int x) :: L.filter (fun q => !(q.1 == i) && !(q.1 + 1 == i && q.2.category == 2))) ks = L') (kk : jW l b D Γ ex cs ss nL σ L' (pc + 1) rest) : jW l b D Γ ex cs ss nL σ L pc (.int x :: rest) := fun ls H locs hl hP hS hZ => lv_istore_n B.1 B.2.1 hdg hi hl hn rfl (fun ls' hl' => kk ls' H locs (lv_sub hl' ks hks) hP hS hZ)
theorem j_istore (B : jB l b D ta Γ own cc ret nL rm) {L' : List (Nat × Value)} {i : Nat} {x : Int32} (hdg : decode cc pc = .ok (.istore i, 2)) (hn : i < nL) (ks : List Nat) (hks : lv_pick ((i, Value.int x) :: L.filter (fun q => !(q.1 == i) && !(q.1 + 1 == i && q.2.category == 2))) ks = L') (kk : jW l b D Γ ex cs ss nL σ L' (pc + 2) rest) : jW l b D Γ ex cs ss nL σ L pc (.int x :: rest) := fun ls H locs hl hP hS hZ => lv_istore B.1 B.2.1 hdg hl hn rfl (fun ls' hl' => kk ls' H locs (lv_sub hl' ks hks) hP hS hZ)
theorem j_lstore_n (B : jB l b D ta Γ own cc ret nL rm) {L' : List (Nat × Value)} {k : Fin 4} {i : Nat} {x : Int64} (hdg : decode cc pc = .ok (.lstore_n k, 1)) (hi : (k : Nat) = i) (hn : i + 1 < nL) (ks : List Nat) (hks : lv_pick ((i, Value.long x) :: L.filter (fun q => !(q.1 == i) && (!(q.1 == i + 1) && !(q.1 + 1 == i && q.2.category == 2)))) ks = L') (kk : jW l b D Γ ex cs ss nL σ L' (pc + 1) rest) : jW l b D Γ ex cs ss nL σ L pc (.long x :: rest) := fun ls H locs hl hP hS hZ => lv_lstore_n B.1 B.2.1 hdg hi hl hn rfl (fun ls' hl' => kk ls' H locs (lv_sub hl' ks hks) hP hS hZ)
theorem j_lstore (B : jB l b D ta Γ own cc ret nL rm) {L' : List (Nat × Value)} {i : Nat} {x : Int64} (hdg : decode cc pc = .ok (.lstore i, 2)) (hn : i + 1 < nL) (ks : List Nat) (hks : lv_pick ((i, Value.long x) :: L.filter (fun q => !(q.1 == i) && (!(q.1 == i + 1) && !(q.1 + 1 == i && q.2.category == 2)))) ks = L') (kk : jW l b D Γ ex cs ss nL σ L' (pc + 2) rest) : jW l b D Γ ex cs ss nL σ L pc (.long x :: rest) := fun ls H locs hl hP hS hZ => lv_lstore B.1 B.2.1 hdg hl hn rfl (fun ls' hl' => kk ls' H locs (lv_sub hl' ks hks) hP hS hZ)
theorem j_astore_n (B : jB l b D ta Γ own cc ret nL rm) {L' : List (Nat × Value)} {k : Fin 4} {i : Nat} {x : Nat} (hdg : decode cc pc = .ok (.astore_n k, 1)) (hi : (k : Nat) = i) (hn : i < nL) (ks : List Nat) (hks : lv_pick ((i, Value.ref x) :: L.filter (fun q => !(q.1 == i) && !(q.1 + 1 == i && q.2.category == 2))) ks = L') (kk : jW l b D Γ ex cs ss nL σ L' (pc + 1) rest) : jW l b D Γ ex cs ss nL σ L pc (.ref x :: rest) := fun ls H locs hl hP hS hZ => lv_astore_n B.1 B.2.1 hdg hi hl hn rfl (fun ls' hl' => kk ls' H locs (lv_sub hl' ks hks) hP hS hZ)
theorem j_astore (B : jB l b D ta Γ own cc ret nL rm) {L' : List (Nat × Value)} {i : Nat} {x : Nat} (hdg : decode cc pc = .ok (.astore i, 2)) (hn : i < nL) (ks : List Nat) (hks : lv_pick ((i, Value.ref x) :: L.filter (fun q => !(q.1 == i) && !(q.1 + 1 == i && q.2.category == 2))) ks = L') (kk : jW l b D Γ ex cs ss nL σ L' (pc + 2) rest) : jW l b D Γ ex cs ss nL σ L pc (.ref x :: rest) := fun ls H locs hl hP hS hZ => lv_astore B.1 B.2.1 hdg hl hn rfl (fun ls' hl' => kk ls' H locs (lv_sub hl' ks hks) hP hS hZ)
theorem j_iinc (B : jB l b D ta Γ own cc ret nL rm) {L' : List (Nat × Value)} {i k : Nat} {n : Int} {x v : Int32} (hdg : decode cc pc = .ok (.iinc i n, 3)) (hk : L[k]? = some (i, .int x)) (hv : x + Int32.ofInt n = v) (hn : i < nL) (ks : List Nat) (hks : lv_pick ((i, Value.int v) :: L.filter (fun q => !(q.1 == i) && !(q.1 + 1 == i && q.2.category == 2))) ks = L') (kk : jW l b D Γ ex cs ss nL σ L' (pc + 3) rest) : jW l b D Γ ex cs ss nL σ L pc rest := fun ls H locs hl hP hS hZ => lv_iinc B.1 B.2.1 hdg hl hk hv hn rfl (fun ls' hl' => kk ls' H locs (lv_sub hl' ks hks) hP hS hZ)
theorem j_iadd (B : jB l b D ta Γ own cc ret nL rm) {x y : Int32} (hdg : decode cc pc = .ok (.iadd, 1)) (kk : jW l b D Γ ex cs ss nL σ L (pc + 1) (.int (x + y) :: rest)) : jW l b D Γ ex cs ss nL σ L pc (.int y :: .int x :: rest) := fun ls H locs hl hP hS hZ => lv_iadd B.1 B.2.1 hdg (kk ls H locs hl hP hS hZ)
theorem j_isub (B : jB l b D ta Γ own cc ret nL rm) {x y : Int32} (hdg : decode cc pc = .ok (.isub, 1)) (kk : jW l b D Γ ex cs ss nL σ L (pc + 1) (.int (x - y) :: rest)) : jW l b D Γ ex cs ss nL σ L pc (.int y :: .int x :: rest) := fun ls H locs hl hP hS hZ => lv_isub B.1 B.2.1 hdg (kk ls H locs hl hP hS hZ)
theorem j_imul (B : jB l b D ta Γ own cc ret nL rm) {x y : Int32} (hdg : decode cc pc = .ok (.imul, 1)) (kk : jW l b D Γ ex cs ss nL σ L (pc + 1) (.int (x * y) :: rest)) : jW l b D Γ ex cs ss nL σ L pc (.int y :: .int x :: rest) := fun ls H locs hl hP hS hZ => lv_imul B.1 B.2.1 hdg (kk ls H locs hl hP hS hZ)
theorem j_iand (B : jB l b D ta Γ own cc ret nL rm) {x y : Int32} (hdg : decode cc pc = .ok (.iand, 1)) (kk : jW l b D Γ ex cs ss nL σ L (pc + 1) (.int (x &&& y) :: rest)) : jW l b D Γ ex cs ss nL σ L pc (.int y :: .int x :: rest) := fun ls H locs hl hP hS hZ => lv_iand B.1 B.2.1 hdg (kk ls H locs hl hP hS hZ)
theorem j_ior (B : jB l b D ta Γ own cc ret nL rm) {x y : Int32} (hdg : decode cc pc = .ok (.ior, 1)) (kk : jW l b D Γ ex cs ss nL σ L (pc + 1) (.int (x ||| y) :: rest)) : jW l b D Γ ex cs ss nL σ L pc (.int y :: .int x :: rest) := fun ls H locs hl hP hS hZ => lv_ior B.1 B.2.1 hdg (kk ls H locs hl hP hS hZ)
theorem j_ixor (B : jB l b D ta Γ own cc ret nL rm) {x y : Int32} (hdg : decode cc pc = .ok (.ixor, 1)) (kk : jW l b D Γ ex cs ss nL σ L (pc + 1) (.int (x ^^^ y) :: rest)) : jW l b D Γ ex cs ss nL σ L pc (.int y :: .int x :: rest) := fun ls H locs hl hP hS hZ => lv_ixor B.1 B.2.1 hdg (kk ls H locs hl hP hS hZ)
theorem j_idiv (B : jB l b D ta Γ own cc ret nL rm) {x y : Int32} (hdg : decode cc pc = .ok (.idiv, 1)) (hne : ¬ y = 0) (kk : jW l b D Γ ex cs ss nL σ L (pc + 1) (.int (x / y) :: rest)) : jW l b D Γ ex cs ss nL σ L pc (.int y :: .int x :: rest) := fun ls H locs hl hP hS hZ => lv_idiv B.1 B.2.1 hdg hne (kk ls H locs hl hP hS hZ)
theorem j_irem (B : jB l b D ta Γ own cc ret nL rm) {x y : Int32} (hdg : decode cc pc = .ok (.irem, 1)) (hne : ¬ y = 0) (kk : jW l b D Γ ex cs ss nL σ L (pc + 1) (.int (x - x / y * y) :: rest)) : jW l b D Γ ex cs ss nL σ L pc (.int y :: .int x :: rest) := fun ls H locs hl hP hS hZ => lv_irem B.1 B.2.1 hdg hne (kk ls H locs hl hP hS hZ)
theorem j_ineg (B : jB l b D ta Γ own cc ret nL rm) {x : Int32} (hdg : decode cc pc = .ok (.ineg, 1)) (kk : jW l b D Γ ex cs ss nL σ L (pc + 1) (.int (-x) :: rest)) : jW l b D Γ ex cs ss nL σ L pc (.int x :: rest) := fun ls H locs hl hP hS hZ => lv_ineg B.1 B.2.1 hdg (kk ls H locs hl hP hS hZ)
theorem j_ladd (B : jB l b D ta Γ own cc ret nL rm) {x y : Int64} (hdg : decode cc pc = .ok (.ladd, 1)) (kk : jW l b D Γ ex cs ss nL σ L (pc + 1) (.long (x + y) :: rest)) : jW l b D Γ ex cs ss nL σ L pc (.long y :: .long x :: rest) := fun ls H locs hl hP hS hZ => lv_ladd B.1 B.2.1 hdg (kk ls H locs hl hP hS hZ)
theorem j_lsub (B : jB l b D ta Γ own cc ret nL rm) {x y : Int64} (hdg : decode cc pc = .ok (.lsub, 1)) (kk : jW l b D Γ ex cs ss nL σ L (pc + 1) (.long (x - y) :: rest)) : jW l b D Γ ex cs ss nL σ L pc (.long y :: .long x :: rest) := fun ls H locs hl hP hS hZ => lv_lsub B.1 B.2.1 hdg (kk ls H locs hl hP hS hZ)
theorem j_lmul (B : jB l b D ta Γ own cc ret nL rm) {x y : Int64} (hdg : decode cc pc = .ok (.lmul, 1)) (kk : jW l b D Γ ex cs ss nL σ L (pc + 1) (.long (x * y) :: rest)) : jW l b D Γ ex cs ss nL σ L pc (.long y :: .long x :: rest) := fun ls H locs hl hP hS hZ => lv_lmul B.1 B.2.1 hdg (kk ls H locs hl hP hS hZ)
theorem j_land (B : jB l b D ta Γ own cc ret nL rm) {x y : Int64} (hdg : decode cc pc = .ok (.land, 1)) (kk : jW l b D Γ ex cs ss nL σ L (pc + 1) (.long (x &&& y) :: rest)) : jW l b D Γ ex cs ss nL σ L pc (.long y :: .long x :: rest) := fun ls H locs hl hP hS hZ => lv_land B.1 B.2.1 hdg (kk ls H locs hl hP hS hZ)
theorem j_lor (B : jB l b D ta Γ own cc ret nL rm) {x y : Int64} (hdg : decode cc pc = .ok (.lor, 1)) (kk : jW l b D Γ ex cs ss nL σ L (pc + 1) (.long (x ||| y) :: rest)) : jW l b D Γ ex cs ss nL σ L pc (.long y :: .long x :: rest) := fun ls H locs hl hP hS hZ => lv_lor B.1 B.2.1 hdg (kk ls H locs hl hP hS hZ)
theorem j_lxor (B : jB l b D ta Γ own cc ret nL rm) {x y : Int64} (hdg : decode cc pc = .ok (.lxor, 1)) (kk : jW l b D Γ ex cs ss nL σ L (pc + 1) (.long (x ^^^ y) :: rest)) : jW l b D Γ ex cs ss nL σ L pc (.long y :: .long x :: rest) := fun ls H locs hl hP hS hZ => lv_lxor B.1 B.2.1 hdg (kk ls H locs hl hP hS hZ)
theorem j_ishl (B : jB l b D ta Γ own cc ret nL rm) {x y : Int32} (hdg : decode cc pc = .ok (.ishl, 1)) (kk : jW l b D Γ ex cs ss nL σ L (pc + 1) (.int (x <<< (y &&& 31)) :: rest)) : jW l b D Γ ex cs ss nL σ L pc (.int y :: .int x :: rest) := fun ls H locs hl hP hS hZ => lv_ishl B.1 B.2.1 hdg (kk ls H locs hl hP hS hZ)
theorem j_ishr (B : jB l b D ta Γ own cc ret nL rm) {x y : Int32} (hdg : decode cc pc = .ok (.ishr, 1)) (kk : jW l b D Γ ex cs ss nL σ L (pc + 1) (.int (x >>> (y &&& 31)) :: rest)) : jW l b D Γ ex cs ss nL σ L pc (.int y :: .int x :: rest) := fun ls H locs hl hP hS hZ => lv_ishr B.1 B.2.1 hdg (kk ls H locs hl hP hS hZ)
theorem j_iushr (B : jB l b D ta Γ own cc ret nL rm) {x y v : Int32} (hdg : decode cc pc = .ok (.iushr, 1)) (hv : (x.toUInt32 >>> (y.toUInt32 &&& Int32.toUInt32 31)).toInt32 = v) (kk : jW l b D Γ ex cs ss nL σ L (pc + 1) (.int v :: rest)) : jW l b D Γ ex cs ss nL σ L pc (.int y :: .int x :: rest) := fun ls H locs hl hP hS hZ => lv_iushr B.1 B.2.1 hdg hv (kk ls H locs hl hP hS hZ)
theorem j_lushr (B : jB l b D ta Γ own cc ret nL rm) {x v : Int64} {y : Int32} (hdg : decode cc pc = .ok (.lushr, 1)) (hv : (x.toUInt64 >>> (y.toInt64.toUInt64 &&& Int64.toUInt64 63)).toInt64 = v) (kk : jW l b D Γ ex cs ss nL σ L (pc + 1) (.long v :: rest)) : jW l b D Γ ex cs ss nL σ L pc (.int y :: .long x :: rest) := fun ls H locs hl hP hS hZ => lv_lushr B.1 B.2.1 hdg hv (kk ls H locs hl hP hS hZ)
theorem j_lshl (B : jB l b D ta Γ own cc ret nL rm) {x v : Int64} {y : Int32} (hdg : decode cc pc = .ok (.lshl, 1)) (hv : x <<< (y.toInt64 &&& 63) = v) (kk : jW l b D Γ ex cs ss nL σ L (pc + 1) (.long v :: rest)) : jW l b D Γ ex cs ss nL σ L pc (.int y :: .long x :: rest) := fun ls H locs hl hP hS hZ => lv_lshl B.1 B.2.1 hdg hv (kk ls H locs hl hP hS hZ)
theorem j_lshr (B : jB l b D ta Γ own cc ret nL rm) {x v : Int64} {y : Int32} (hdg : decode cc pc = .ok (.lshr, 1)) (hv : x >>> (y.toInt64 &&& 63) = v) (kk : jW l b D Γ ex cs ss nL σ L (pc + 1) (.long v :: rest)) : jW l b D Γ ex cs ss nL σ L pc (.int y :: .long x :: rest) := fun ls H locs hl hP hS hZ => lv_lshr B.1 B.2.1 hdg hv (kk ls H locs hl hP hS hZ)
theorem j_i2l (B : jB l b D ta Γ own cc ret nL rm) {x : Int32} {v : Int64} (hdg : decode cc pc = .ok (.i2l, 1)) (hv : x.toInt64 = v) (kk : jW l b D Γ ex cs ss nL σ L (pc + 1) (.long v :: rest)) : jW l b D Γ ex cs ss nL σ L pc (.int x :: rest) := fun ls H locs hl hP hS hZ => lv_i2l B.1 B.2.1 hdg hv (kk ls H locs hl hP hS hZ)
theorem j_l2i (B : jB l b D ta Γ own cc ret nL rm) {x : Int64} {v : Int32} (hdg : decode cc pc = .ok (.l2i, 1)) (hv : x.toInt32 = v) (kk : jW l b D Γ ex cs ss nL σ L (pc + 1) (.int v :: rest)) : jW l b D Γ ex cs ss nL σ L pc (.long x :: rest) := fun ls H locs hl hP hS hZ => lv_l2i B.1 B.2.1 hdg hv (kk ls H locs hl hP hS hZ)
theorem j_i2b (B : jB l b D ta Γ own cc ret nL rm) {x : Int32} {v : Int32} (hdg : decode cc pc = .ok (.i2b, 1)) (hv : x.toInt8.toInt32 = v) (kk : jW l b D Γ ex cs ss nL σ L (pc + 1) (.int v :: rest)) : jW l b D Γ ex cs ss nL σ L pc (.int x :: rest) := fun ls H locs hl hP hS hZ => lv_i2b B.1 B.2.1 hdg hv (kk ls H locs hl hP hS hZ)
theorem j_i2c (B : jB l b D ta Γ own cc ret nL rm) {x : Int32} {v : Int32} (hdg : decode cc pc = .ok (.i2c, 1)) (hv : (x.toUInt32 % 65536).toInt32 = v) (kk : jW l b D Γ ex cs ss nL σ L (pc + 1) (.int v :: rest)) : jW l b D Γ ex cs ss nL σ L pc (.int x :: rest) := fun ls H locs hl hP hS hZ => lv_i2c B.1 B.2.1 hdg hv (kk ls H locs hl hP hS hZ)
theorem j_dup (B : jB l b D ta Γ own cc ret nL rm) {va : Value} (hdg : decode cc pc = .ok (.dup, 1)) (hva : va.category = 1) (kk : jW l b D Γ ex cs ss nL σ L (pc + 1) (va :: va :: rest)) : jW l b D Γ ex cs ss nL σ L pc (va :: rest) := fun ls H locs hl hP hS hZ => lv_dup B.1 B.2.1 hdg hva (kk ls H locs hl hP hS hZ)
theorem j_pop (B : jB l b D ta Γ own cc ret nL rm) {va : Value} (hdg : decode cc pc = .ok (.pop, 1)) (hva : va.category = 1) (kk : jW l b D Γ ex cs ss nL σ L (pc + 1) (rest)) : jW l b D Γ ex cs ss nL σ L pc (va :: rest) := fun ls H locs hl hP hS hZ => lv_pop B.1 B.2.1 hdg hva (kk ls H locs hl hP hS hZ)
theorem j_dup_x1 (B : jB l b D ta Γ own cc ret nL rm) {va vb : Value} (hdg : decode cc pc = .ok (.dup_x1, 1)) (hva : va.category = 1) (hvb : vb.category = 1) (kk : jW l b D Γ ex cs ss nL σ L (pc + 1) (va :: vb :: va :: rest)) : jW l b D Γ ex cs ss nL σ L pc (va :: vb :: rest) := fun ls H locs hl hP hS hZ => lv_dup_x1 B.1 B.2.1 hdg hva hvb (kk ls H locs hl hP hS hZ)
theorem j_dup_x2 (B : jB l b D ta Γ own cc ret nL rm) {va vb vd : Value} (hdg : decode cc pc = .ok (.dup_x2, 1)) (hva : va.category = 1) (hvb : vb.category = 1) (hvd : vd.category = 1) (kk : jW l b D Γ ex cs ss nL σ L (pc + 1) (va :: vb :: vd :: va :: rest)) : jW l b D Γ ex cs ss nL σ L pc (va :: vb :: vd :: rest) := fun ls H locs hl hP hS hZ => lv_dup_x2 B.1 B.2.1 hdg hva hvb hvd (kk ls H locs hl hP hS hZ)
theorem j_if_eq (B : jB l b D ta Γ own cc ret nL rm) {x : Int32} {off : Int} {tgt : Nat} (hdg : decode cc pc = .ok (.ifCond .eq off, 3)) (ht : (pc : Int) + off = (tgt : Int)) (kt : x = 0 → jW l b D Γ ex cs ss nL σ L tgt rest) (kf : ¬ x = 0 → jW l b D Γ ex cs ss nL σ L (pc + 3) rest) : jW l b D Γ ex cs ss nL σ L pc (.int x :: rest) := fun ls H locs hl hP hS hZ => lv_if_eq B.1 B.2.1 hdg ht (fun h => kt h ls H locs hl hP hS hZ) (fun h => kf h ls H locs hl hP hS hZ)
theorem j_if_ne (B : jB l b D ta Γ own cc ret nL rm) {x : Int32} {off : Int} {tgt : Nat} (hdg : decode cc pc = .ok (.ifCond .ne off, 3)) (ht : (pc : Int) + off = (tgt : Int)) (kt : ¬ x = 0 → jW l b D Γ ex cs ss nL σ L tgt rest) (kf : x = 0 → jW l b D Γ ex cs ss nL σ L (pc + 3) rest) : jW l b D Γ ex cs ss nL σ L pc (.int x :: rest) := fun ls H locs hl hP hS hZ => lv_if_ne B.1 B.2.1 hdg ht (fun h => kt h ls H locs hl hP hS hZ) (fun h => kf h ls H locs hl hP hS hZ)
theorem j_if_lt (B : jB l b D ta Γ own cc ret nL rm) {x : Int32} {off : Int} {tgt : Nat} (hdg : decode cc pc = .ok (.ifCond .lt off, 3)) (ht : (pc : Int) + off = (tgt : Int)) (kt : x < 0 → jW l b D Γ ex cs ss nL σ L tgt rest) (kf : ¬ x < 0 → jW l b D Γ ex cs ss nL σ L (pc + 3) rest) : jW l b D Γ ex cs ss nL σ L pc (.int x :: rest) := fun ls H locs hl hP hS hZ => lv_if_lt B.1 B.2.1 hdg ht (fun h => kt h ls H locs hl hP hS hZ) (fun h => kf h ls H locs hl hP hS hZ)
theorem j_if_ge (B : jB l b D ta Γ own cc ret nL rm) {x : Int32} {off : Int} {tgt : Nat} (hdg : decode cc pc = .ok (.ifCond .ge off, 3)) (ht : (pc : Int) + off = (tgt : Int)) (kt : 0 ≤ x → jW l b D Γ ex cs ss nL σ L tgt rest) (kf : ¬ 0 ≤ x → jW l b D Γ ex cs ss nL σ L (pc + 3) rest) : jW l b D Γ ex cs ss nL σ L pc (.int x :: rest) := fun ls H locs hl hP hS hZ => lv_if_ge B.1 B.2.1 hdg ht (fun h => kt h ls H locs hl hP hS hZ) (fun h => kf h ls H locs hl hP hS hZ)
theorem j_if_gt (B : jB l b D ta Γ own cc ret nL rm) {x : Int32} {off : Int} {tgt : Nat} (hdg : decode cc pc = .ok (.ifCond .gt off, 3)) (ht : (pc : Int) + off = (tgt : Int)) (kt : 0 < x → jW l b D Γ ex cs ss nL σ L tgt rest) (kf : ¬ 0 < x → jW l b D Γ ex cs ss nL σ L (pc + 3) rest) : jW l b D Γ ex cs ss nL σ L pc (.int x :: rest) := fun ls H locs hl hP hS hZ => lv_if_gt B.1 B.2.1 hdg ht (fun h => kt h ls H locs hl hP hS hZ) (fun h => kf h ls H locs hl hP hS hZ)
theorem j_if_le (B : jB l b D ta Γ own cc ret nL rm) {x : Int32} {off : Int} {tgt : Nat} (hdg : decode cc pc = .ok (.ifCond .le off, 3)) (ht : (pc : Int) + off = (tgt : Int)) (kt : x ≤ 0 → jW l b D Γ ex cs ss nL σ L tgt rest) (kf : ¬ x ≤ 0 → jW l b D Γ ex cs ss nL σ L (pc + 3) rest) : jW l b D Γ ex cs ss nL σ L pc (.int x :: rest) := fun ls H locs hl hP hS hZ => lv_if_le B.1 B.2.1 hdg ht (fun h => kt h ls H locs hl hP hS hZ) (fun h => kf h ls H locs hl hP hS hZ)
theorem j_icmp_eq (B : jB l b D ta Γ own cc ret nL rm) {x y : Int32} {off : Int} {tgt : Nat} (hdg : decode cc pc = .ok (.if_icmp .eq off, 3)) (ht : (pc : Int) + off = (tgt : Int)) (kt : x = y → jW l b D Γ ex cs ss nL σ L tgt rest) (kf : ¬ x = y → jW l b D Γ ex cs ss nL σ L (pc + 3) rest) : jW l b D Γ ex cs ss nL σ L pc (.int y :: .int x :: rest) := fun ls H locs hl hP hS hZ => lv_icmp_eq B.1 B.2.1 hdg ht (fun h => kt h ls H locs hl hP hS hZ) (fun h => kf h ls H locs hl hP hS hZ)
theorem j_icmp_ne (B : jB l b D ta Γ own cc ret nL rm) {x y : Int32} {off : Int} {tgt : Nat} (hdg : decode cc pc = .ok (.if_icmp .ne off, 3)) (ht : (pc : Int) + off = (tgt : Int)) (kt : ¬ x = y → jW l b D Γ ex cs ss nL σ L tgt rest) (kf : x = y → jW l b D Γ ex cs ss nL σ L (pc + 3) rest) : jW l b D Γ ex cs ss nL σ L pc (.int y :: .int x :: rest) := fun ls H locs hl hP hS hZ => lv_icmp_ne B.1 B.2.1 hdg ht (fun h => kt h ls H locs hl hP hS hZ) (fun h => kf h ls H locs hl hP hS hZ)
theorem j_icmp_lt (B : jB l b D ta Γ own cc ret nL rm) {x y : Int32} {off : Int} {tgt : Nat} (hdg : decode cc pc = .ok (.if_icmp .lt off, 3)) (ht : (pc : Int) + off = (tgt : Int)) (kt : x < y → jW l b D Γ ex cs ss nL σ L tgt rest) (kf : ¬ x < y → jW l b D Γ ex cs ss nL σ L (pc + 3) rest) : jW l b D Γ ex cs ss nL σ L pc (.int y :: .int x :: rest) := fun ls H locs hl hP hS hZ => lv_icmp_lt B.1 B.2.1 hdg ht (fun h => kt h ls H locs hl hP hS hZ) (fun h => kf h ls H locs hl hP hS hZ)
theorem j_icmp_ge (B : jB l b D ta Γ own cc ret nL rm) {x y : Int32} {off : Int} {tgt : Nat} (hdg : decode cc pc = .ok (.if_icmp .ge off, 3)) (ht : (pc : Int) + off = (tgt : Int)) (kt : y ≤ x → jW l b D Γ ex cs ss nL σ L tgt rest) (kf : ¬ y ≤ x → jW l b D Γ ex cs ss nL σ L (pc + 3) rest) : jW l b D Γ ex cs ss nL σ L pc (.int y :: .int x :: rest) := fun ls H locs hl hP hS hZ => lv_icmp_ge B.1 B.2.1 hdg ht (fun h => kt h ls H locs hl hP hS hZ) (fun h => kf h ls H locs hl hP hS hZ)
theorem j_icmp_gt (B : jB l b D ta Γ own cc ret nL rm) {x y : Int32} {off : Int} {tgt : Nat} (hdg : decode cc pc = .ok (.if_icmp .gt off, 3)) (ht : (pc : Int) + off = (tgt : Int)) (kt : y < x → jW l b D Γ ex cs ss nL σ L tgt rest) (kf : ¬ y < x → jW l b D Γ ex cs ss nL σ L (pc + 3) rest) : jW l b D Γ ex cs ss nL σ L pc (.int y :: .int x :: rest) := fun ls H locs hl hP hS hZ => lv_icmp_gt B.1 B.2.1 hdg ht (fun h => kt h ls H locs hl hP hS hZ) (fun h => kf h ls H locs hl hP hS hZ)
theorem j_icmp_le (B : jB l b D ta Γ own cc ret nL rm) {x y : Int32} {off : Int} {tgt : Nat} (hdg : decode cc pc = .ok (.if_icmp .le off, 3)) (ht : (pc : Int) + off = (tgt : Int)) (kt : x ≤ y → jW l b D Γ ex cs ss nL σ L tgt rest) (kf : ¬ x ≤ y → jW l b D Γ ex cs ss nL σ L (pc + 3) rest) : jW l b D Γ ex cs ss nL σ L pc (.int y :: .int x :: rest) := fun ls H locs hl hP hS hZ => lv_icmp_le B.1 B.2.1 hdg ht (fun h => kt h ls H locs hl hP hS hZ) (fun h => kf h ls H locs hl hP hS hZ)
theorem j_goto (B : jB l b D ta Γ own cc ret nL rm) {off : Int} {tgt : Nat} (hdg : decode cc pc = .ok (.goto off, 3)) (ht : (pc : Int) + off = (tgt : Int)) (kk : jW l b D Γ ex cs ss nL σ L tgt rest) : jW l b D Γ ex cs ss nL σ L pc rest := fun ls H locs hl hP hS hZ => lv_goto B.1 B.2.1 hdg ht (kk ls H locs hl hP hS hZ)
theorem j_ifnonnull (B : jB l b D ta Γ own cc ret nL rm) {x : Nat} {off : Int} {tgt : Nat} (hdg : decode cc pc = .ok (.ifnonnull off, 3)) (ht : (pc : Int) + off = (tgt : Int)) (kk : jW l b D Γ ex cs ss nL σ L tgt rest) : jW l b D Γ ex cs ss nL σ L pc (.ref x :: rest) := fun ls H locs hl hP hS hZ => lv_ifnonnull B.1 B.2.1 hdg ht (kk ls H locs hl hP hS hZ)
theorem j_ifnull (B : jB l b D ta Γ own cc ret nL rm) {x : Nat} {off : Int} (hdg : decode cc pc = .ok (.ifnull off, 3)) (kk : jW l b D Γ ex cs ss nL σ L (pc + 3) rest) : jW l b D Γ ex cs ss nL σ L pc (.ref x :: rest) := fun ls H locs hl hP hS hZ => lv_ifnull B.1 B.2.1 hdg (kk ls H locs hl hP hS hZ)
theorem j_null (B : jB l b D ta Γ own cc ret nL rm) (hdg : decode cc pc = .ok (.aconst_null, 1)) (kk : jW l b D Γ ex cs ss nL σ L (pc + 1) (.null :: rest)) : jW l b D Γ ex cs ss nL σ L pc rest := fun ls H locs hl hP hS hZ => lv_null B.1 B.2.1 hdg (kk ls H locs hl hP hS hZ)
theorem j_lookup (B : jB l b D ta Γ own cc ret nL rm) {dflt : Int} {ps : Array (Int × Int)} {len : Nat} {x : Int32} {off : Int} {tgt : Nat} (hdg : decode cc pc = .ok (.lookupswitch dflt ps, len)) (hp : (ps.toList.zip (ps.toList.drop 1)).all (fun (a, next) => a.1 < next.1) = true) (ho : Op.lookupswitch.offset ps.toList dflt x.toInt = off) (ht : (pc : Int) + off = (tgt : Int)) (kk : jW l b D Γ ex cs ss nL σ L tgt rest) : jW l b D Γ ex cs ss nL σ L pc (.int x :: rest) := fun ls H locs hl hP hS hZ => lv_lookup B.1 B.2.1 hdg hp ho ht (kk ls H locs hl hP hS hZ)
theorem j_tableOut (B : jB l b D ta Γ own cc ret nL rm) {dflt lo hi : Int} {offs : Array Int} {len : Nat} {x : Int32} {tgt : Nat} (hdg : decode cc pc = .ok (.tableswitch dflt lo hi offs, len)) (h : x.toInt < lo ∨ hi < x.toInt) (ht : (pc : Int) + dflt = (tgt : Int)) (kk : jW l b D Γ ex cs ss nL σ L tgt rest) : jW l b D Γ ex cs ss nL σ L pc (.int x :: rest) := fun ls H locs hl hP hS hZ => lv_tableOut B.1 B.2.1 hdg h ht (kk ls H locs hl hP hS hZ)
theorem j_tableIn (B : jB l b D ta Γ own cc ret nL rm) {dflt lo hi : Int} {offs : Array Int} {len : Nat} {x : Int32} {off : Int} {tgt : Nat} (hdg : decode cc pc = .ok (.tableswitch dflt lo hi offs, len)) (h1 : ¬ x.toInt < lo) (h2 : ¬ hi < x.toInt) (ho : offs[(x.toInt - lo).toNat]? = some off) (ht : (pc : Int) + off = (tgt : Int)) (kk : jW l b D Γ ex cs ss nL σ L tgt rest) : jW l b D Γ ex cs ss nL σ L pc (.int x :: rest) := fun ls H locs hl hP hS hZ => lv_tableIn B.1 B.2.1 hdg h1 h2 ho ht (kk ls H locs hl hP hS hZ)
theorem j_lneg (B : jB l b D ta Γ own cc ret nL rm) {x : Int64} (hdg : decode cc pc = .ok (.lneg, 1)) (kk : jW l b D Γ ex cs ss nL σ L (pc + 1) (.long (-x) :: rest)) : jW l b D Γ ex cs ss nL σ L pc (.long x :: rest) := fun ls H locs hl hP hS hZ => lv_lneg B.1 B.2.1 hdg (kk ls H locs hl hP hS hZ)
end JR
end
section
set_option maxRecDepth 100000 in
theorem w_0 : (Jvm.Cond.initialized "WireFieldLaw") ∈ jWS := jWS_in 41 rfl rfl
set_option maxRecDepth 100000 in
theorem w_1 : (Jvm.Cond.initialized "WireField") ∈ jWS := jWS_in 42 rfl rfl
set_option maxRecDepth 100000 in
theorem w_2 : (Jvm.Cond.initialized "WireField$Grid") ∈ jWS := jWS_in 43 rfl rfl
set_option maxRecDepth 100000 in
theorem w_3 : (Jvm.Cond.initialized "WireField$Pen") ∈ jWS := jWS_in 44 rfl rfl
set_option maxRecDepth 100000 in
theorem w_4 : (Jvm.Cond.initialized "WireField$Text") ∈ jWS := jWS_in 45 rfl rfl
set_option maxRecDepth 100000 in
theorem w_5 : (Jvm.Cond.initialized "WireField$Source") ∈ jWS := jWS_in 46 rfl rfl
set_option maxRecDepth 100000 in
theorem w_6 : (Jvm.Cond.initialized "WireField$Probe") ∈ jWS := jWS_in 47 rfl rfl
set_option maxRecDepth 100000 in
theorem w_7 : (Jvm.Cond.initialized "WireField$Moment") ∈ jWS := jWS_in 48 rfl rfl
set_option maxRecDepth 100000 in
theorem w_8 : (Jvm.Cond.initialized "WireFieldModel") ∈ jWS := jWS_in 49 rfl rfl
set_option maxRecDepth 100000 in
theorem w_9 : (Jvm.Cond.initialized "java/lang/Throwable") ∈ jWS := jWS_in 50 rfl rfl
set_option maxRecDepth 100000 in
theorem w_10 : (Jvm.Cond.initialized "java/lang/Exception") ∈ jWS := jWS_in 51 rfl rfl
set_option maxRecDepth 100000 in
theorem w_11 : (Jvm.Cond.initialized "java/lang/RuntimeException") ∈ jWS := jWS_in 52 rfl rfl
set_option maxRecDepth 100000 in
theorem w_12 : (Jvm.Cond.initialized "java/lang/IndexOutOfBoundsException") ∈ jWS := jWS_in 53 rfl rfl
set_option maxRecDepth 100000 in
theorem w_13 : (Jvm.Cond.initialized "java/lang/String") ∈ jWS := jWS_in 54 rfl rfl
set_option maxRecDepth 100000 in
theorem w_14 : (Jvm.Cond.initialized "java/lang/StringLatin1") ∈ jWS := jWS_in 55 rfl rfl
set_option maxRecDepth 100000 in
theorem w_15 : (Jvm.Cond.initialized "java/lang/Math") ∈ jWS := jWS_in 56 rfl rfl
set_option maxRecDepth 100000 in
theorem w_16 : (Jvm.Cond.initialized "java/lang/StringUTF16") ∈ jWS := jWS_in 57 rfl rfl
set_option maxRecDepth 100000 in
theorem w_17 : (Jvm.Cond.initialized "jdk/internal/util/Preconditions") ∈ jWS := jWS_in 58 rfl rfl
set_option maxRecDepth 100000 in
theorem w_18 : (Jvm.Cond.initialized "java/lang/Character") ∈ jWS := jWS_in 59 rfl rfl
set_option maxRecDepth 100000 in
theorem w_19 : (Jvm.Cond.initialized "java/lang/IllegalArgumentException") ∈ jWS := jWS_in 60 rfl rfl
set_option maxRecDepth 100000 in
theorem w_20 : (Jvm.Cond.initialized "java/lang/System") ∈ jWS := jWS_in 61 rfl rfl
set_option maxRecDepth 100000 in
theorem w_21 : (Jvm.Cond.initialized "java/lang/UnsupportedOperationException") ∈ jWS := jWS_in 62 rfl rfl
set_option maxRecDepth 100000 in
theorem w_22 : (Jvm.Cond.initialized "java/lang/Integer") ∈ jWS := jWS_in 63 rfl rfl
set_option maxRecDepth 100000 in
theorem w_23 : (Jvm.Cond.classLink "WireFieldLaw" (8 : Nat) "WireField") ∈ jWS := jWS_in 64 rfl rfl
set_option maxRecDepth 100000 in
theorem w_24 : (Jvm.Cond.instantiable "WireField" (13 : Nat)) ∈ jWS := jWS_in 65 rfl rfl
set_option maxRecDepth 100000 in
theorem w_25 : (Jvm.Cond.methodLink "WireFieldLaw" (27 : Nat) ({ cls := "WireField", name := "<init>", desc := "()V" } : Jvm.MethodName)) ∈ jWS := jWS_in 66 rfl rfl
set_option maxRecDepth 100000 in
theorem w_26 : (Jvm.Cond.instanceMethod ({ cls := "WireField", name := "<init>", desc := "()V" } : Jvm.MethodName)) ∈ jWS := jWS_in 67 rfl rfl
set_option maxRecDepth 100000 in
theorem w_27 : (Jvm.Cond.code ({ cls := "WireField", name := "<init>", desc := "()V" } : Jvm.MethodName) prog_1_method_1_code (2 : Nat) (Option.none : Option Jvm.ClassFile.FieldType)) ∈ jWS := jWS_in 68 rfl rfl
set_option maxRecDepth 100000 in
theorem w_28 : (Jvm.Cond.methodLink "WireField" (3 : Nat) ({ cls := "java/lang/Object", name := "<init>", desc := "()V" } : Jvm.MethodName)) ∈ jWS := jWS_in 69 rfl rfl
set_option maxRecDepth 100000 in
theorem w_29 : (Jvm.Cond.instanceMethod ({ cls := "java/lang/Object", name := "<init>", desc := "()V" } : Jvm.MethodName)) ∈ jWS := jWS_in 70 rfl rfl
set_option maxRecDepth 100000 in
theorem w_30 : (Jvm.Cond.code ({ cls := "java/lang/Object", name := "<init>", desc := "()V" } : Jvm.MethodName) object_method_1_code (1 : Nat) (Option.none : Option Jvm.ClassFile.FieldType)) ∈ jWS := jWS_in 71 rfl rfl
set_option maxRecDepth 100000 in
theorem w_31 : (Jvm.Cond.classLink "WireField" (9 : Nat) "WireField$Grid") ∈ jWS := jWS_in 72 rfl rfl
set_option maxRecDepth 100000 in
theorem w_32 : (Jvm.Cond.instantiable "WireField$Grid" (3 : Nat)) ∈ jWS := jWS_in 73 rfl rfl
set_option maxRecDepth 100000 in
theorem w_33 : (Jvm.Cond.methodLinkNest "WireField" (11 : Nat) ({ cls := "WireField$Grid", name := "<init>", desc := "()V" } : Jvm.MethodName) "WireField") ∈ jNW := jNW_in 74 rfl rfl
set_option maxRecDepth 100000 in
theorem w_34 : (Jvm.Cond.instanceMethod ({ cls := "WireField$Grid", name := "<init>", desc := "()V" } : Jvm.MethodName)) ∈ jWS := jWS_in 75 rfl rfl
set_option maxRecDepth 100000 in
theorem w_35 : (Jvm.Cond.code ({ cls := "WireField$Grid", name := "<init>", desc := "()V" } : Jvm.MethodName) prog_2_method_1_code (1 : Nat) (Option.none : Option Jvm.ClassFile.FieldType)) ∈ jWS := jWS_in 76 rfl rfl
set_option maxRecDepth 100000 in
theorem w_36 : (Jvm.Cond.methodLink "WireField$Grid" (3 : Nat) ({ cls := "java/lang/Object", name := "<init>", desc := "()V" } : Jvm.MethodName)) ∈ jWS := jWS_in 77 rfl rfl
set_option maxRecDepth 100000 in
theorem w_37 : (Jvm.Cond.fieldLink "WireField$Grid" (9 : Nat) "WireField$Grid" "heads" "[I") ∈ jWS := jWS_in 78 rfl rfl
set_option maxRecDepth 100000 in
theorem w_38 : (Jvm.Cond.fieldLink "WireField$Grid" (15 : Nat) "WireField$Grid" "tails" "[I") ∈ jWS := jWS_in 79 rfl rfl
set_option maxRecDepth 100000 in
theorem w_39 : (Jvm.Cond.fieldLink "WireField$Grid" (18 : Nat) "WireField$Grid" "wires" "[I") ∈ jWS := jWS_in 80 rfl rfl
set_option maxRecDepth 100000 in
theorem w_40 : (Jvm.Cond.laysFinal "WireField$Grid" "WireField$Grid" "heads" "[I") ∈ jWS := jWS_in 81 rfl rfl
set_option maxRecDepth 100000 in
theorem w_42 : (Jvm.Cond.laysFinal "WireField$Grid" "WireField$Grid" "tails" "[I") ∈ jWS := jWS_in 83 rfl rfl
set_option maxRecDepth 100000 in
theorem w_44 : (Jvm.Cond.laysFinal "WireField$Grid" "WireField$Grid" "wires" "[I") ∈ jWS := jWS_in 85 rfl rfl
set_option maxRecDepth 100000 in
theorem w_47 : (Jvm.Cond.arrayClass Jvm.ClassFile.FieldType.int) ∈ jWS := jWS_in 88 rfl rfl
set_option maxRecDepth 100000 in
theorem w_48 : (Jvm.Cond.classLink "WireField" (19 : Nat) "WireField$Pen") ∈ jWS := jWS_in 89 rfl rfl
set_option maxRecDepth 100000 in
theorem w_49 : (Jvm.Cond.instantiable "WireField$Pen" (6 : Nat)) ∈ jWS := jWS_in 90 rfl rfl
set_option maxRecDepth 100000 in
theorem w_50 : (Jvm.Cond.methodLinkNest "WireField" (21 : Nat) ({ cls := "WireField$Pen", name := "<init>", desc := "()V" } : Jvm.MethodName) "WireField") ∈ jNW := jNW_in 91 rfl rfl
set_option maxRecDepth 100000 in
theorem w_51 : (Jvm.Cond.instanceMethod ({ cls := "WireField$Pen", name := "<init>", desc := "()V" } : Jvm.MethodName)) ∈ jWS := jWS_in 92 rfl rfl
set_option maxRecDepth 100000 in
theorem w_52 : (Jvm.Cond.code ({ cls := "WireField$Pen", name := "<init>", desc := "()V" } : Jvm.MethodName) prog_4_method_1_code (1 : Nat) (Option.none : Option Jvm.ClassFile.FieldType)) ∈ jWS := jWS_in 93 rfl rfl
set_option maxRecDepth 100000 in
theorem w_53 : (Jvm.Cond.methodLink "WireField$Pen" (3 : Nat) ({ cls := "java/lang/Object", name := "<init>", desc := "()V" } : Jvm.MethodName)) ∈ jWS := jWS_in 94 rfl rfl
set_option maxRecDepth 100000 in
theorem w_54 : (Jvm.Cond.classLink "WireField$Pen" (9 : Nat) "WireField$Grid") ∈ jWS := jWS_in 95 rfl rfl
set_option maxRecDepth 100000 in
theorem w_55 : (Jvm.Cond.methodLinkNest "WireField$Pen" (11 : Nat) ({ cls := "WireField$Grid", name := "<init>", desc := "()V" } : Jvm.MethodName) "WireField") ∈ jNW := jNW_in 96 rfl rfl
set_option maxRecDepth 100000 in
theorem w_56 : (Jvm.Cond.fieldLink "WireField$Pen" (12 : Nat) "WireField$Pen" "sheet" "LWireField$Grid;") ∈ jWS := jWS_in 97 rfl rfl
set_option maxRecDepth 100000 in
theorem w_57 : (Jvm.Cond.fieldLinkNest "WireField" (119 : Nat) "WireField$Pen" "sheet" "LWireField$Grid;" "WireField") ∈ jNW := jNW_in 98 rfl rfl
set_option maxRecDepth 100000 in
theorem w_58 : (Jvm.Cond.fieldLink "WireField$Pen" (18 : Nat) "WireField$Pen" "column" "I") ∈ jWS := jWS_in 99 rfl rfl
set_option maxRecDepth 100000 in
theorem w_59 : (Jvm.Cond.fieldLinkNest "WireField" (261 : Nat) "WireField$Pen" "column" "I" "WireField") ∈ jNW := jNW_in 100 rfl rfl
set_option maxRecDepth 100000 in
theorem w_60 : (Jvm.Cond.fieldLink "WireField$Pen" (22 : Nat) "WireField$Pen" "row" "I") ∈ jWS := jWS_in 101 rfl rfl
set_option maxRecDepth 100000 in
theorem w_61 : (Jvm.Cond.fieldLinkNest "WireField" (264 : Nat) "WireField$Pen" "row" "I" "WireField") ∈ jNW := jNW_in 102 rfl rfl
set_option maxRecDepth 100000 in
theorem w_62 : (Jvm.Cond.fieldLink "WireField$Pen" (25 : Nat) "WireField$Pen" "direction" "I") ∈ jWS := jWS_in 103 rfl rfl
set_option maxRecDepth 100000 in
theorem w_63 : (Jvm.Cond.fieldLinkNest "WireField" (267 : Nat) "WireField$Pen" "direction" "I" "WireField") ∈ jNW := jNW_in 104 rfl rfl
set_option maxRecDepth 100000 in
theorem w_64 : (Jvm.Cond.fieldLink "WireField$Pen" (28 : Nat) "WireField$Pen" "isDown" "Z") ∈ jWS := jWS_in 105 rfl rfl
set_option maxRecDepth 100000 in
theorem w_65 : (Jvm.Cond.fieldLinkNest "WireField" (270 : Nat) "WireField$Pen" "isDown" "Z" "WireField") ∈ jNW := jNW_in 106 rfl rfl
set_option maxRecDepth 100000 in
theorem w_66 : (Jvm.Cond.fieldLink "WireField$Pen" (32 : Nat) "WireField$Pen" "ordersDone" "I") ∈ jWS := jWS_in 107 rfl rfl
set_option maxRecDepth 100000 in
theorem w_67 : (Jvm.Cond.fieldLinkNest "WireField" (132 : Nat) "WireField$Pen" "ordersDone" "I" "WireField") ∈ jNW := jNW_in 108 rfl rfl
set_option maxRecDepth 100000 in
theorem w_68 : (Jvm.Cond.laysFinal "WireField$Pen" "WireField$Pen" "sheet" "LWireField$Grid;") ∈ jWS := jWS_in 109 rfl rfl
set_option maxRecDepth 100000 in
theorem w_70 : (Jvm.Cond.lays "WireField$Pen" "WireField$Pen" "column" "I") ∈ jWS := jWS_in 111 rfl rfl
set_option maxRecDepth 100000 in
theorem w_72 : (Jvm.Cond.lays "WireField$Pen" "WireField$Pen" "row" "I") ∈ jWS := jWS_in 113 rfl rfl
set_option maxRecDepth 100000 in
theorem w_74 : (Jvm.Cond.lays "WireField$Pen" "WireField$Pen" "direction" "I") ∈ jWS := jWS_in 115 rfl rfl
set_option maxRecDepth 100000 in
theorem w_76 : (Jvm.Cond.lays "WireField$Pen" "WireField$Pen" "isDown" "Z") ∈ jWS := jWS_in 117 rfl rfl
set_option maxRecDepth 100000 in
theorem w_78 : (Jvm.Cond.lays "WireField$Pen" "WireField$Pen" "ordersDone" "I") ∈ jWS := jWS_in 119 rfl rfl
set_option maxRecDepth 100000 in
theorem w_81 : (Jvm.Cond.classLink "WireField" (26 : Nat) "WireField$Text") ∈ jWS := jWS_in 122 rfl rfl
set_option maxRecDepth 100000 in
theorem w_82 : (Jvm.Cond.instantiable "WireField$Text" (2 : Nat)) ∈ jWS := jWS_in 123 rfl rfl
set_option maxRecDepth 100000 in
theorem w_83 : (Jvm.Cond.methodLinkNest "WireField" (28 : Nat) ({ cls := "WireField$Text", name := "<init>", desc := "()V" } : Jvm.MethodName) "WireField") ∈ jNW := jNW_in 124 rfl rfl
set_option maxRecDepth 100000 in
theorem w_84 : (Jvm.Cond.instanceMethod ({ cls := "WireField$Text", name := "<init>", desc := "()V" } : Jvm.MethodName)) ∈ jWS := jWS_in 125 rfl rfl
set_option maxRecDepth 100000 in
theorem w_85 : (Jvm.Cond.code ({ cls := "WireField$Text", name := "<init>", desc := "()V" } : Jvm.MethodName) prog_7_method_1_code (1 : Nat) (Option.none : Option Jvm.ClassFile.FieldType)) ∈ jWS := jWS_in 126 rfl rfl
set_option maxRecDepth 100000 in
theorem w_86 : (Jvm.Cond.methodLink "WireField$Text" (3 : Nat) ({ cls := "java/lang/Object", name := "<init>", desc := "()V" } : Jvm.MethodName)) ∈ jWS := jWS_in 127 rfl rfl
set_option maxRecDepth 100000 in
theorem w_87 : (Jvm.Cond.fieldLink "WireField$Text" (9 : Nat) "WireField$Text" "signs" "[C") ∈ jWS := jWS_in 128 rfl rfl
set_option maxRecDepth 100000 in
theorem w_88 : (Jvm.Cond.fieldLink "WireField$Text" (15 : Nat) "WireField$Text" "length" "I") ∈ jWS := jWS_in 129 rfl rfl
set_option maxRecDepth 100000 in
theorem w_89 : (Jvm.Cond.fieldLinkNest "WireField" (107 : Nat) "WireField$Text" "length" "I" "WireField") ∈ jNW := jNW_in 130 rfl rfl
set_option maxRecDepth 100000 in
theorem w_90 : (Jvm.Cond.laysFinal "WireField$Text" "WireField$Text" "signs" "[C") ∈ jWS := jWS_in 131 rfl rfl
set_option maxRecDepth 100000 in
theorem w_92 : (Jvm.Cond.lays "WireField$Text" "WireField$Text" "length" "I") ∈ jWS := jWS_in 133 rfl rfl
set_option maxRecDepth 100000 in
theorem w_95 : (Jvm.Cond.arrayClass Jvm.ClassFile.FieldType.char) ∈ jWS := jWS_in 136 rfl rfl
set_option maxRecDepth 100000 in
theorem w_97 : (Jvm.Cond.classLink "WireField" (41 : Nat) "WireField$Source") ∈ jWS := jWS_in 138 rfl rfl
set_option maxRecDepth 100000 in
theorem w_99 : (Jvm.Cond.classLink "WireField" (51 : Nat) "WireField$Probe") ∈ jWS := jWS_in 140 rfl rfl
set_option maxRecDepth 100000 in
theorem w_101 : (Jvm.Cond.classLink "WireField" (60 : Nat) "WireField$Moment") ∈ jWS := jWS_in 142 rfl rfl
set_option maxRecDepth 100000 in
theorem w_103 : (Jvm.Cond.instantiable "WireField$Source" (5 : Nat)) ∈ jWS := jWS_in 144 rfl rfl
set_option maxRecDepth 100000 in
theorem w_104 : (Jvm.Cond.methodLinkNest "WireField" (72 : Nat) ({ cls := "WireField$Source", name := "<init>", desc := "()V" } : Jvm.MethodName) "WireField") ∈ jNW := jNW_in 145 rfl rfl
set_option maxRecDepth 100000 in
theorem w_105 : (Jvm.Cond.instanceMethod ({ cls := "WireField$Source", name := "<init>", desc := "()V" } : Jvm.MethodName)) ∈ jWS := jWS_in 146 rfl rfl
set_option maxRecDepth 100000 in
theorem w_106 : (Jvm.Cond.code ({ cls := "WireField$Source", name := "<init>", desc := "()V" } : Jvm.MethodName) prog_6_method_1_code (1 : Nat) (Option.none : Option Jvm.ClassFile.FieldType)) ∈ jWS := jWS_in 147 rfl rfl
set_option maxRecDepth 100000 in
theorem w_107 : (Jvm.Cond.methodLink "WireField$Source" (3 : Nat) ({ cls := "java/lang/Object", name := "<init>", desc := "()V" } : Jvm.MethodName)) ∈ jWS := jWS_in 148 rfl rfl
set_option maxRecDepth 100000 in
theorem w_108 : (Jvm.Cond.fieldLink "WireField$Source" (9 : Nat) "WireField$Source" "column" "I") ∈ jWS := jWS_in 149 rfl rfl
set_option maxRecDepth 100000 in
theorem w_109 : (Jvm.Cond.fieldLink "WireField$Source" (15 : Nat) "WireField$Source" "row" "I") ∈ jWS := jWS_in 150 rfl rfl
set_option maxRecDepth 100000 in
theorem w_110 : (Jvm.Cond.fieldLink "WireField$Source" (18 : Nat) "WireField$Source" "pattern" "J") ∈ jWS := jWS_in 151 rfl rfl
set_option maxRecDepth 100000 in
theorem w_111 : (Jvm.Cond.fieldLink "WireField$Source" (22 : Nat) "WireField$Source" "patternLength" "I") ∈ jWS := jWS_in 152 rfl rfl
set_option maxRecDepth 100000 in
theorem w_112 : (Jvm.Cond.fieldLink "WireField$Source" (25 : Nat) "WireField$Source" "place" "I") ∈ jWS := jWS_in 153 rfl rfl
set_option maxRecDepth 100000 in
theorem w_113 : (Jvm.Cond.fieldLinkNest "WireField" (182 : Nat) "WireField$Source" "place" "I" "WireField") ∈ jNW := jNW_in 154 rfl rfl
set_option maxRecDepth 100000 in
theorem w_114 : (Jvm.Cond.lays "WireField$Source" "WireField$Source" "column" "I") ∈ jWS := jWS_in 155 rfl rfl
set_option maxRecDepth 100000 in
theorem w_116 : (Jvm.Cond.lays "WireField$Source" "WireField$Source" "row" "I") ∈ jWS := jWS_in 157 rfl rfl
set_option maxRecDepth 100000 in
theorem w_118 : (Jvm.Cond.lays "WireField$Source" "WireField$Source" "pattern" "J") ∈ jWS := jWS_in 159 rfl rfl
set_option maxRecDepth 100000 in
theorem w_120 : (Jvm.Cond.lays "WireField$Source" "WireField$Source" "patternLength" "I") ∈ jWS := jWS_in 161 rfl rfl
set_option maxRecDepth 100000 in
theorem w_122 : (Jvm.Cond.lays "WireField$Source" "WireField$Source" "place" "I") ∈ jWS := jWS_in 163 rfl rfl
set_option maxRecDepth 100000 in
theorem w_125 : (Jvm.Cond.arrayClass Jvm.ClassFile.FieldType.boolean) ∈ jWS := jWS_in 166 rfl rfl
set_option maxRecDepth 100000 in
theorem w_126 : (Jvm.Cond.instantiable "WireField$Probe" (5 : Nat)) ∈ jWS := jWS_in 167 rfl rfl
set_option maxRecDepth 100000 in
theorem w_127 : (Jvm.Cond.methodLinkNest "WireField" (73 : Nat) ({ cls := "WireField$Probe", name := "<init>", desc := "()V" } : Jvm.MethodName) "WireField") ∈ jNW := jNW_in 168 rfl rfl
set_option maxRecDepth 100000 in
theorem w_128 : (Jvm.Cond.instanceMethod ({ cls := "WireField$Probe", name := "<init>", desc := "()V" } : Jvm.MethodName)) ∈ jWS := jWS_in 169 rfl rfl
set_option maxRecDepth 100000 in
theorem w_129 : (Jvm.Cond.code ({ cls := "WireField$Probe", name := "<init>", desc := "()V" } : Jvm.MethodName) prog_5_method_1_code (1 : Nat) (Option.none : Option Jvm.ClassFile.FieldType)) ∈ jWS := jWS_in 170 rfl rfl
set_option maxRecDepth 100000 in
theorem w_130 : (Jvm.Cond.methodLink "WireField$Probe" (3 : Nat) ({ cls := "java/lang/Object", name := "<init>", desc := "()V" } : Jvm.MethodName)) ∈ jWS := jWS_in 171 rfl rfl
set_option maxRecDepth 100000 in
theorem w_131 : (Jvm.Cond.fieldLink "WireField$Probe" (9 : Nat) "WireField$Probe" "column" "I") ∈ jWS := jWS_in 172 rfl rfl
set_option maxRecDepth 100000 in
theorem w_132 : (Jvm.Cond.fieldLink "WireField$Probe" (15 : Nat) "WireField$Probe" "row" "I") ∈ jWS := jWS_in 173 rfl rfl
set_option maxRecDepth 100000 in
theorem w_133 : (Jvm.Cond.fieldLink "WireField$Probe" (18 : Nat) "WireField$Probe" "headCount" "I") ∈ jWS := jWS_in 174 rfl rfl
set_option maxRecDepth 100000 in
theorem w_134 : (Jvm.Cond.fieldLinkNest "WireField" (191 : Nat) "WireField$Probe" "headCount" "I" "WireField") ∈ jNW := jNW_in 175 rfl rfl
set_option maxRecDepth 100000 in
theorem w_135 : (Jvm.Cond.fieldLink "WireField$Probe" (21 : Nat) "WireField$Probe" "latestTime" "I") ∈ jWS := jWS_in 176 rfl rfl
set_option maxRecDepth 100000 in
theorem w_136 : (Jvm.Cond.fieldLinkNest "WireField" (194 : Nat) "WireField$Probe" "latestTime" "I" "WireField") ∈ jNW := jNW_in 177 rfl rfl
set_option maxRecDepth 100000 in
theorem w_137 : (Jvm.Cond.fieldLink "WireField$Probe" (24 : Nat) "WireField$Probe" "headBits" "J") ∈ jWS := jWS_in 178 rfl rfl
set_option maxRecDepth 100000 in
theorem w_138 : (Jvm.Cond.fieldLinkNest "WireField" (197 : Nat) "WireField$Probe" "headBits" "J" "WireField") ∈ jNW := jNW_in 179 rfl rfl
set_option maxRecDepth 100000 in
theorem w_139 : (Jvm.Cond.lays "WireField$Probe" "WireField$Probe" "column" "I") ∈ jWS := jWS_in 180 rfl rfl
set_option maxRecDepth 100000 in
theorem w_141 : (Jvm.Cond.lays "WireField$Probe" "WireField$Probe" "row" "I") ∈ jWS := jWS_in 182 rfl rfl
set_option maxRecDepth 100000 in
theorem w_143 : (Jvm.Cond.lays "WireField$Probe" "WireField$Probe" "headCount" "I") ∈ jWS := jWS_in 184 rfl rfl
set_option maxRecDepth 100000 in
theorem w_145 : (Jvm.Cond.lays "WireField$Probe" "WireField$Probe" "latestTime" "I") ∈ jWS := jWS_in 186 rfl rfl
set_option maxRecDepth 100000 in
theorem w_147 : (Jvm.Cond.lays "WireField$Probe" "WireField$Probe" "headBits" "J") ∈ jWS := jWS_in 188 rfl rfl
set_option maxRecDepth 100000 in
theorem w_150 : (Jvm.Cond.instantiable "WireField$Moment" (2 : Nat)) ∈ jWS := jWS_in 191 rfl rfl
set_option maxRecDepth 100000 in
theorem w_151 : (Jvm.Cond.methodLinkNest "WireField" (74 : Nat) ({ cls := "WireField$Moment", name := "<init>", desc := "()V" } : Jvm.MethodName) "WireField") ∈ jNW := jNW_in 192 rfl rfl
set_option maxRecDepth 100000 in
theorem w_152 : (Jvm.Cond.instanceMethod ({ cls := "WireField$Moment", name := "<init>", desc := "()V" } : Jvm.MethodName)) ∈ jWS := jWS_in 193 rfl rfl
set_option maxRecDepth 100000 in
theorem w_153 : (Jvm.Cond.code ({ cls := "WireField$Moment", name := "<init>", desc := "()V" } : Jvm.MethodName) prog_3_method_1_code (1 : Nat) (Option.none : Option Jvm.ClassFile.FieldType)) ∈ jWS := jWS_in 194 rfl rfl
set_option maxRecDepth 100000 in
theorem w_154 : (Jvm.Cond.methodLink "WireField$Moment" (3 : Nat) ({ cls := "java/lang/Object", name := "<init>", desc := "()V" } : Jvm.MethodName)) ∈ jWS := jWS_in 195 rfl rfl
set_option maxRecDepth 100000 in
theorem w_155 : (Jvm.Cond.classLink "WireField$Moment" (9 : Nat) "WireField$Grid") ∈ jWS := jWS_in 196 rfl rfl
set_option maxRecDepth 100000 in
theorem w_156 : (Jvm.Cond.methodLinkNest "WireField$Moment" (11 : Nat) ({ cls := "WireField$Grid", name := "<init>", desc := "()V" } : Jvm.MethodName) "WireField") ∈ jNW := jNW_in 197 rfl rfl
set_option maxRecDepth 100000 in
theorem w_157 : (Jvm.Cond.fieldLink "WireField$Moment" (12 : Nat) "WireField$Moment" "grid" "LWireField$Grid;") ∈ jWS := jWS_in 198 rfl rfl
set_option maxRecDepth 100000 in
theorem w_158 : (Jvm.Cond.fieldLinkNest "WireField" (175 : Nat) "WireField$Moment" "grid" "LWireField$Grid;" "WireField") ∈ jNW := jNW_in 199 rfl rfl
set_option maxRecDepth 100000 in
theorem w_159 : (Jvm.Cond.fieldLink "WireField$Moment" (18 : Nat) "WireField$Moment" "places" "[I") ∈ jWS := jWS_in 200 rfl rfl
set_option maxRecDepth 100000 in
theorem w_160 : (Jvm.Cond.fieldLinkNest "WireField" (178 : Nat) "WireField$Moment" "places" "[I" "WireField") ∈ jNW := jNW_in 201 rfl rfl
set_option maxRecDepth 100000 in
theorem w_161 : (Jvm.Cond.laysFinal "WireField$Moment" "WireField$Moment" "grid" "LWireField$Grid;") ∈ jWS := jWS_in 202 rfl rfl
set_option maxRecDepth 100000 in
theorem w_163 : (Jvm.Cond.laysFinal "WireField$Moment" "WireField$Moment" "places" "[I") ∈ jWS := jWS_in 204 rfl rfl
set_option maxRecDepth 100000 in
theorem w_166 : (Jvm.Cond.fieldLink "WireField" (12 : Nat) "WireField" "field" "LWireField$Grid;") ∈ jWS := jWS_in 207 rfl rfl
set_option maxRecDepth 100000 in
theorem w_167 : (Jvm.Cond.fieldLink "WireField" (16 : Nat) "WireField" "draft" "LWireField$Grid;") ∈ jWS := jWS_in 208 rfl rfl
set_option maxRecDepth 100000 in
theorem w_168 : (Jvm.Cond.fieldLink "WireField" (22 : Nat) "WireField" "pen" "LWireField$Pen;") ∈ jWS := jWS_in 209 rfl rfl
set_option maxRecDepth 100000 in
theorem w_169 : (Jvm.Cond.fieldLink "WireField" (29 : Nat) "WireField" "line" "LWireField$Text;") ∈ jWS := jWS_in 210 rfl rfl
set_option maxRecDepth 100000 in
theorem w_170 : (Jvm.Cond.fieldLink "WireField" (33 : Nat) "WireField" "macros" "[LWireField$Text;") ∈ jWS := jWS_in 211 rfl rfl
set_option maxRecDepth 100000 in
theorem w_171 : (Jvm.Cond.fieldLink "WireField" (37 : Nat) "WireField" "macroIsThere" "[Z") ∈ jWS := jWS_in 212 rfl rfl
set_option maxRecDepth 100000 in
theorem w_172 : (Jvm.Cond.fieldLink "WireField" (43 : Nat) "WireField" "sources" "[LWireField$Source;") ∈ jWS := jWS_in 213 rfl rfl
set_option maxRecDepth 100000 in
theorem w_173 : (Jvm.Cond.fieldLink "WireField" (47 : Nat) "WireField" "sourceCount" "I") ∈ jWS := jWS_in 214 rfl rfl
set_option maxRecDepth 100000 in
theorem w_174 : (Jvm.Cond.fieldLink "WireField" (53 : Nat) "WireField" "probes" "[LWireField$Probe;") ∈ jWS := jWS_in 215 rfl rfl
set_option maxRecDepth 100000 in
theorem w_175 : (Jvm.Cond.fieldLink "WireField" (57 : Nat) "WireField" "probeCount" "I") ∈ jWS := jWS_in 216 rfl rfl
set_option maxRecDepth 100000 in
theorem w_176 : (Jvm.Cond.fieldLink "WireField" (62 : Nat) "WireField" "moments" "[LWireField$Moment;") ∈ jWS := jWS_in 217 rfl rfl
set_option maxRecDepth 100000 in
theorem w_177 : (Jvm.Cond.fieldLink "WireField" (66 : Nat) "WireField" "keptCount" "I") ∈ jWS := jWS_in 218 rfl rfl
set_option maxRecDepth 100000 in
theorem w_178 : (Jvm.Cond.fieldLink "WireField" (69 : Nat) "WireField" "time" "I") ∈ jWS := jWS_in 219 rfl rfl
set_option maxRecDepth 100000 in
theorem w_179 : (Jvm.Cond.laysFinal "WireField" "WireField" "field" "LWireField$Grid;") ∈ jWS := jWS_in 220 rfl rfl
set_option maxRecDepth 100000 in
theorem w_181 : (Jvm.Cond.laysFinal "WireField" "WireField" "draft" "LWireField$Grid;") ∈ jWS := jWS_in 222 rfl rfl
set_option maxRecDepth 100000 in
theorem w_183 : (Jvm.Cond.laysFinal "WireField" "WireField" "pen" "LWireField$Pen;") ∈ jWS := jWS_in 224 rfl rfl
set_option maxRecDepth 100000 in
theorem w_185 : (Jvm.Cond.laysFinal "WireField" "WireField" "line" "LWireField$Text;") ∈ jWS := jWS_in 226 rfl rfl
set_option maxRecDepth 100000 in
theorem w_187 : (Jvm.Cond.laysFinal "WireField" "WireField" "macros" "[LWireField$Text;") ∈ jWS := jWS_in 228 rfl rfl
set_option maxRecDepth 100000 in
theorem w_189 : (Jvm.Cond.laysFinal "WireField" "WireField" "macroIsThere" "[Z") ∈ jWS := jWS_in 230 rfl rfl
set_option maxRecDepth 100000 in
theorem w_191 : (Jvm.Cond.laysFinal "WireField" "WireField" "sources" "[LWireField$Source;") ∈ jWS := jWS_in 232 rfl rfl
set_option maxRecDepth 100000 in
theorem w_193 : (Jvm.Cond.lays "WireField" "WireField" "sourceCount" "I") ∈ jWS := jWS_in 234 rfl rfl
set_option maxRecDepth 100000 in
theorem w_195 : (Jvm.Cond.laysFinal "WireField" "WireField" "probes" "[LWireField$Probe;") ∈ jWS := jWS_in 236 rfl rfl
set_option maxRecDepth 100000 in
theorem w_197 : (Jvm.Cond.lays "WireField" "WireField" "probeCount" "I") ∈ jWS := jWS_in 238 rfl rfl
set_option maxRecDepth 100000 in
theorem w_199 : (Jvm.Cond.laysFinal "WireField" "WireField" "moments" "[LWireField$Moment;") ∈ jWS := jWS_in 240 rfl rfl
set_option maxRecDepth 100000 in
theorem w_201 : (Jvm.Cond.lays "WireField" "WireField" "keptCount" "I") ∈ jWS := jWS_in 242 rfl rfl
set_option maxRecDepth 100000 in
theorem w_203 : (Jvm.Cond.lays "WireField" "WireField" "time" "I") ∈ jWS := jWS_in 244 rfl rfl
set_option maxRecDepth 100000 in
theorem w_206 : (Jvm.Cond.methodLink "WireFieldLaw" (31 : Nat) ({ cls := "WireField", name := "type", desc := "(C)Z" } : Jvm.MethodName)) ∈ jWS := jWS_in 247 rfl rfl
set_option maxRecDepth 100000 in
theorem w_207 : (Jvm.Cond.instanceMethod ({ cls := "WireField", name := "type", desc := "(C)Z" } : Jvm.MethodName)) ∈ jWS := jWS_in 248 rfl rfl
set_option maxRecDepth 100000 in
theorem w_208 : (Jvm.Cond.selects "WireField" ({ cls := "WireField", name := "type", desc := "(C)Z" } : Jvm.MethodName) ({ cls := "WireField", name := "type", desc := "(C)Z" } : Jvm.MethodName)) ∈ jWS := jWS_in 249 rfl rfl
set_option maxRecDepth 100000 in
theorem w_209 : (Jvm.Cond.code ({ cls := "WireField", name := "type", desc := "(C)Z" } : Jvm.MethodName) prog_1_method_2_code (2 : Nat) (Option.some Jvm.ClassFile.FieldType.boolean)) ∈ jWS := jWS_in 250 rfl rfl
set_option maxRecDepth 100000 in
theorem w_210 : (Jvm.Cond.methodLink "WireField" (75 : Nat) ({ cls := "WireField$Text", name := "add", desc := "(C)Z" } : Jvm.MethodName)) ∈ jWS := jWS_in 251 rfl rfl
set_option maxRecDepth 100000 in
theorem w_211 : (Jvm.Cond.instanceMethod ({ cls := "WireField$Text", name := "add", desc := "(C)Z" } : Jvm.MethodName)) ∈ jWS := jWS_in 252 rfl rfl
set_option maxRecDepth 100000 in
theorem w_212 : (Jvm.Cond.selects "WireField$Text" ({ cls := "WireField$Text", name := "add", desc := "(C)Z" } : Jvm.MethodName) ({ cls := "WireField$Text", name := "add", desc := "(C)Z" } : Jvm.MethodName)) ∈ jWS := jWS_in 253 rfl rfl
set_option maxRecDepth 100000 in
theorem w_213 : (Jvm.Cond.code ({ cls := "WireField$Text", name := "add", desc := "(C)Z" } : Jvm.MethodName) prog_7_method_2_code (2 : Nat) (Option.some Jvm.ClassFile.FieldType.boolean)) ∈ jWS := jWS_in 254 rfl rfl
set_option maxRecDepth 100000 in
theorem w_214 : (Jvm.Cond.methodLink "WireFieldLaw" (50 : Nat) ({ cls := "WireField", name := "wipe", desc := "()V" } : Jvm.MethodName)) ∈ jWS := jWS_in 255 rfl rfl
set_option maxRecDepth 100000 in
theorem w_215 : (Jvm.Cond.instanceMethod ({ cls := "WireField", name := "wipe", desc := "()V" } : Jvm.MethodName)) ∈ jWS := jWS_in 256 rfl rfl
set_option maxRecDepth 100000 in
theorem w_216 : (Jvm.Cond.selects "WireField" ({ cls := "WireField", name := "wipe", desc := "()V" } : Jvm.MethodName) ({ cls := "WireField", name := "wipe", desc := "()V" } : Jvm.MethodName)) ∈ jWS := jWS_in 257 rfl rfl
set_option maxRecDepth 100000 in
theorem w_217 : (Jvm.Cond.code ({ cls := "WireField", name := "wipe", desc := "()V" } : Jvm.MethodName) prog_1_method_5_code (1 : Nat) (Option.none : Option Jvm.ClassFile.FieldType)) ∈ jWS := jWS_in 258 rfl rfl
set_option maxRecDepth 100000 in
theorem w_218 : (Jvm.Cond.methodLink "WireField" (126 : Nat) ({ cls := "WireField$Text", name := "clear", desc := "()V" } : Jvm.MethodName)) ∈ jWS := jWS_in 259 rfl rfl
set_option maxRecDepth 100000 in
theorem w_219 : (Jvm.Cond.instanceMethod ({ cls := "WireField$Text", name := "clear", desc := "()V" } : Jvm.MethodName)) ∈ jWS := jWS_in 260 rfl rfl
set_option maxRecDepth 100000 in
theorem w_220 : (Jvm.Cond.selects "WireField$Text" ({ cls := "WireField$Text", name := "clear", desc := "()V" } : Jvm.MethodName) ({ cls := "WireField$Text", name := "clear", desc := "()V" } : Jvm.MethodName)) ∈ jWS := jWS_in 261 rfl rfl
set_option maxRecDepth 100000 in
theorem w_221 : (Jvm.Cond.code ({ cls := "WireField$Text", name := "clear", desc := "()V" } : Jvm.MethodName) prog_7_method_3_code (1 : Nat) (Option.none : Option Jvm.ClassFile.FieldType)) ∈ jWS := jWS_in 262 rfl rfl
set_option maxRecDepth 100000 in
theorem w_222 : (Jvm.Cond.methodLink "WireFieldLaw" (54 : Nat) ({ cls := "WireField", name := "set", desc := "(III)Z" } : Jvm.MethodName)) ∈ jWS := jWS_in 263 rfl rfl
set_option maxRecDepth 100000 in
theorem w_223 : (Jvm.Cond.instanceMethod ({ cls := "WireField", name := "set", desc := "(III)Z" } : Jvm.MethodName)) ∈ jWS := jWS_in 264 rfl rfl
set_option maxRecDepth 100000 in
theorem w_224 : (Jvm.Cond.selects "WireField" ({ cls := "WireField", name := "set", desc := "(III)Z" } : Jvm.MethodName) ({ cls := "WireField", name := "set", desc := "(III)Z" } : Jvm.MethodName)) ∈ jWS := jWS_in 265 rfl rfl
set_option maxRecDepth 100000 in
theorem w_225 : (Jvm.Cond.code ({ cls := "WireField", name := "set", desc := "(III)Z" } : Jvm.MethodName) prog_1_method_6_code (4 : Nat) (Option.some Jvm.ClassFile.FieldType.boolean)) ∈ jWS := jWS_in 266 rfl rfl
set_option maxRecDepth 100000 in
theorem w_226 : (Jvm.Cond.methodLink "WireField" (79 : Nat) ({ cls := "WireField", name := "isWithin", desc := "(II)Z" } : Jvm.MethodName)) ∈ jWS := jWS_in 267 rfl rfl
set_option maxRecDepth 100000 in
theorem w_227 : (Jvm.Cond.static ({ cls := "WireField", name := "isWithin", desc := "(II)Z" } : Jvm.MethodName)) ∈ jWS := jWS_in 268 rfl rfl
set_option maxRecDepth 100000 in
theorem w_228 : (Jvm.Cond.code ({ cls := "WireField", name := "isWithin", desc := "(II)Z" } : Jvm.MethodName) prog_1_method_17_code (2 : Nat) (Option.some Jvm.ClassFile.FieldType.boolean)) ∈ jWS := jWS_in 269 rfl rfl
set_option maxRecDepth 100000 in
theorem w_229 : (Jvm.Cond.methodLink "WireField" (142 : Nat) ({ cls := "WireField$Grid", name := "put", desc := "(III)V" } : Jvm.MethodName)) ∈ jWS := jWS_in 270 rfl rfl
set_option maxRecDepth 100000 in
theorem w_230 : (Jvm.Cond.instanceMethod ({ cls := "WireField$Grid", name := "put", desc := "(III)V" } : Jvm.MethodName)) ∈ jWS := jWS_in 271 rfl rfl
set_option maxRecDepth 100000 in
theorem w_231 : (Jvm.Cond.selects "WireField$Grid" ({ cls := "WireField$Grid", name := "put", desc := "(III)V" } : Jvm.MethodName) ({ cls := "WireField$Grid", name := "put", desc := "(III)V" } : Jvm.MethodName)) ∈ jWS := jWS_in 272 rfl rfl
set_option maxRecDepth 100000 in
theorem w_232 : (Jvm.Cond.code ({ cls := "WireField$Grid", name := "put", desc := "(III)V" } : Jvm.MethodName) prog_2_method_3_code (5 : Nat) (Option.none : Option Jvm.ClassFile.FieldType)) ∈ jWS := jWS_in 273 rfl rfl
set_option maxRecDepth 100000 in
theorem w_233 : (Jvm.Cond.methodLinkNest "WireField$Grid" (21 : Nat) ({ cls := "WireField", name := "isWithin", desc := "(II)Z" } : Jvm.MethodName) "WireField") ∈ jNW := jNW_in 274 rfl rfl
set_option maxRecDepth 100000 in
theorem w_234 : (Jvm.Cond.methodLink "WireField" (129 : Nat) ({ cls := "WireField", name := "forgetHistory", desc := "()V" } : Jvm.MethodName)) ∈ jWS := jWS_in 275 rfl rfl
set_option maxRecDepth 100000 in
theorem w_236 : (Jvm.Cond.instanceMethod ({ cls := "WireField", name := "forgetHistory", desc := "()V" } : Jvm.MethodName)) ∈ jWS := jWS_in 277 rfl rfl
set_option maxRecDepth 100000 in
theorem w_237 : (Jvm.Cond.code ({ cls := "WireField", name := "forgetHistory", desc := "()V" } : Jvm.MethodName) prog_1_method_22_code (1 : Nat) (Option.none : Option Jvm.ClassFile.FieldType)) ∈ jWS := jWS_in 278 rfl rfl
set_option maxRecDepth 100000 in
theorem w_238 : (Jvm.Cond.methodLink "WireFieldLaw" (59 : Nat) ({ cls := "WireField", name := "cell", desc := "(II)I" } : Jvm.MethodName)) ∈ jWS := jWS_in 279 rfl rfl
set_option maxRecDepth 100000 in
theorem w_239 : (Jvm.Cond.instanceMethod ({ cls := "WireField", name := "cell", desc := "(II)I" } : Jvm.MethodName)) ∈ jWS := jWS_in 280 rfl rfl
set_option maxRecDepth 100000 in
theorem w_240 : (Jvm.Cond.selects "WireField" ({ cls := "WireField", name := "cell", desc := "(II)I" } : Jvm.MethodName) ({ cls := "WireField", name := "cell", desc := "(II)I" } : Jvm.MethodName)) ∈ jWS := jWS_in 281 rfl rfl
set_option maxRecDepth 100000 in
theorem w_241 : (Jvm.Cond.code ({ cls := "WireField", name := "cell", desc := "(II)I" } : Jvm.MethodName) prog_1_method_7_code (3 : Nat) (Option.some Jvm.ClassFile.FieldType.int)) ∈ jWS := jWS_in 282 rfl rfl
set_option maxRecDepth 100000 in
theorem w_242 : (Jvm.Cond.methodLink "WireField" (146 : Nat) ({ cls := "WireField$Grid", name := "valueAt", desc := "(II)I" } : Jvm.MethodName)) ∈ jWS := jWS_in 283 rfl rfl
set_option maxRecDepth 100000 in
theorem w_243 : (Jvm.Cond.instanceMethod ({ cls := "WireField$Grid", name := "valueAt", desc := "(II)I" } : Jvm.MethodName)) ∈ jWS := jWS_in 284 rfl rfl
set_option maxRecDepth 100000 in
theorem w_244 : (Jvm.Cond.selects "WireField$Grid" ({ cls := "WireField$Grid", name := "valueAt", desc := "(II)I" } : Jvm.MethodName) ({ cls := "WireField$Grid", name := "valueAt", desc := "(II)I" } : Jvm.MethodName)) ∈ jWS := jWS_in 285 rfl rfl
set_option maxRecDepth 100000 in
theorem w_245 : (Jvm.Cond.code ({ cls := "WireField$Grid", name := "valueAt", desc := "(II)I" } : Jvm.MethodName) prog_2_method_2_code (3 : Nat) (Option.some Jvm.ClassFile.FieldType.int)) ∈ jWS := jWS_in 286 rfl rfl
set_option maxRecDepth 100000 in
theorem w_246 : (Jvm.Cond.methodLink "WireFieldLaw" (63 : Nat) ({ cls := "WireField", name := "copy", desc := "(IIIIIII)Z" } : Jvm.MethodName)) ∈ jWS := jWS_in 287 rfl rfl
set_option maxRecDepth 100000 in
theorem w_247 : (Jvm.Cond.instanceMethod ({ cls := "WireField", name := "copy", desc := "(IIIIIII)Z" } : Jvm.MethodName)) ∈ jWS := jWS_in 288 rfl rfl
set_option maxRecDepth 100000 in
theorem w_248 : (Jvm.Cond.selects "WireField" ({ cls := "WireField", name := "copy", desc := "(IIIIIII)Z" } : Jvm.MethodName) ({ cls := "WireField", name := "copy", desc := "(IIIIIII)Z" } : Jvm.MethodName)) ∈ jWS := jWS_in 289 rfl rfl
set_option maxRecDepth 100000 in
theorem w_249 : (Jvm.Cond.code ({ cls := "WireField", name := "copy", desc := "(IIIIIII)Z" } : Jvm.MethodName) prog_1_method_8_code (11 : Nat) (Option.some Jvm.ClassFile.FieldType.boolean)) ∈ jWS := jWS_in 290 rfl rfl
set_option maxRecDepth 100000 in
theorem w_250 : (Jvm.Cond.methodLink "WireField" (150 : Nat) ({ cls := "WireField", name := "isPiece", desc := "(IIII)Z" } : Jvm.MethodName)) ∈ jWS := jWS_in 291 rfl rfl
set_option maxRecDepth 100000 in
theorem w_251 : (Jvm.Cond.static ({ cls := "WireField", name := "isPiece", desc := "(IIII)Z" } : Jvm.MethodName)) ∈ jWS := jWS_in 292 rfl rfl
set_option maxRecDepth 100000 in
theorem w_252 : (Jvm.Cond.code ({ cls := "WireField", name := "isPiece", desc := "(IIII)Z" } : Jvm.MethodName) prog_1_method_18_code (4 : Nat) (Option.some Jvm.ClassFile.FieldType.boolean)) ∈ jWS := jWS_in 293 rfl rfl
set_option maxRecDepth 100000 in
theorem w_253 : (Jvm.Cond.methodLink "WireField" (122 : Nat) ({ cls := "WireField$Grid", name := "takeFrom", desc := "(LWireField$Grid;)V" } : Jvm.MethodName)) ∈ jWS := jWS_in 294 rfl rfl
set_option maxRecDepth 100000 in
theorem w_254 : (Jvm.Cond.instanceMethod ({ cls := "WireField$Grid", name := "takeFrom", desc := "(LWireField$Grid;)V" } : Jvm.MethodName)) ∈ jWS := jWS_in 295 rfl rfl
set_option maxRecDepth 100000 in
theorem w_255 : (Jvm.Cond.selects "WireField$Grid" ({ cls := "WireField$Grid", name := "takeFrom", desc := "(LWireField$Grid;)V" } : Jvm.MethodName) ({ cls := "WireField$Grid", name := "takeFrom", desc := "(LWireField$Grid;)V" } : Jvm.MethodName)) ∈ jWS := jWS_in 296 rfl rfl
set_option maxRecDepth 100000 in
theorem w_256 : (Jvm.Cond.code ({ cls := "WireField$Grid", name := "takeFrom", desc := "(LWireField$Grid;)V" } : Jvm.MethodName) prog_2_method_4_code (2 : Nat) (Option.none : Option Jvm.ClassFile.FieldType)) ∈ jWS := jWS_in 297 rfl rfl
set_option maxRecDepth 100000 in
theorem w_257 : (Jvm.Cond.methodLink "WireField$Grid" (25 : Nat) ({ cls := "java/lang/System", name := "arraycopy", desc := "(Ljava/lang/Object;ILjava/lang/Object;II)V" } : Jvm.MethodName)) ∈ jWS := jWS_in 298 rfl rfl
set_option maxRecDepth 100000 in
theorem w_258 : (Jvm.Cond.static ({ cls := "java/lang/System", name := "arraycopy", desc := "(Ljava/lang/Object;ILjava/lang/Object;II)V" } : Jvm.MethodName)) ∈ jWS := jWS_in 299 rfl rfl
set_option maxRecDepth 100000 in
theorem w_259 : (Jvm.Cond.native ({ cls := "java/lang/System", name := "arraycopy", desc := "(Ljava/lang/Object;ILjava/lang/Object;II)V" } : Jvm.MethodName)) ∈ jWS := jWS_in 300 rfl rfl
set_option maxRecDepth 100000 in
theorem w_260 : (Jvm.Cond.methodLink "WireField" (154 : Nat) ({ cls := "WireField", name := "putTurned", desc := "(IIIIIII)V" } : Jvm.MethodName)) ∈ jWS := jWS_in 301 rfl rfl
set_option maxRecDepth 100000 in
theorem w_262 : (Jvm.Cond.instanceMethod ({ cls := "WireField", name := "putTurned", desc := "(IIIIIII)V" } : Jvm.MethodName)) ∈ jWS := jWS_in 303 rfl rfl
set_option maxRecDepth 100000 in
theorem w_263 : (Jvm.Cond.code ({ cls := "WireField", name := "putTurned", desc := "(IIIIIII)V" } : Jvm.MethodName) prog_1_method_19_code (13 : Nat) (Option.none : Option Jvm.ClassFile.FieldType)) ∈ jWS := jWS_in 304 rfl rfl
set_option maxRecDepth 100000 in
theorem w_264 : (Jvm.Cond.methodLink "WireField" (201 : Nat) ({ cls := "WireField", name := "turnedX", desc := "(IIIII)I" } : Jvm.MethodName)) ∈ jWS := jWS_in 305 rfl rfl
set_option maxRecDepth 100000 in
theorem w_265 : (Jvm.Cond.static ({ cls := "WireField", name := "turnedX", desc := "(IIIII)I" } : Jvm.MethodName)) ∈ jWS := jWS_in 306 rfl rfl
set_option maxRecDepth 100000 in
theorem w_266 : (Jvm.Cond.code ({ cls := "WireField", name := "turnedX", desc := "(IIIII)I" } : Jvm.MethodName) prog_1_method_20_code (5 : Nat) (Option.some Jvm.ClassFile.FieldType.int)) ∈ jWS := jWS_in 307 rfl rfl
set_option maxRecDepth 100000 in
theorem w_267 : (Jvm.Cond.methodLink "WireField" (205 : Nat) ({ cls := "WireField", name := "turnedY", desc := "(IIIII)I" } : Jvm.MethodName)) ∈ jWS := jWS_in 308 rfl rfl
set_option maxRecDepth 100000 in
theorem w_268 : (Jvm.Cond.static ({ cls := "WireField", name := "turnedY", desc := "(IIIII)I" } : Jvm.MethodName)) ∈ jWS := jWS_in 309 rfl rfl
set_option maxRecDepth 100000 in
theorem w_269 : (Jvm.Cond.code ({ cls := "WireField", name := "turnedY", desc := "(IIIII)I" } : Jvm.MethodName) prog_1_method_21_code (5 : Nat) (Option.some Jvm.ClassFile.FieldType.int)) ∈ jWS := jWS_in 310 rfl rfl
set_option maxRecDepth 100000 in
theorem w_270 : (Jvm.Cond.methodLink "WireFieldLaw" (70 : Nat) ({ cls := "WireField", name := "source", desc := "(IIJI)I" } : Jvm.MethodName)) ∈ jWS := jWS_in 311 rfl rfl
set_option maxRecDepth 100000 in
theorem w_271 : (Jvm.Cond.instanceMethod ({ cls := "WireField", name := "source", desc := "(IIJI)I" } : Jvm.MethodName)) ∈ jWS := jWS_in 312 rfl rfl
set_option maxRecDepth 100000 in
theorem w_272 : (Jvm.Cond.selects "WireField" ({ cls := "WireField", name := "source", desc := "(IIJI)I" } : Jvm.MethodName) ({ cls := "WireField", name := "source", desc := "(IIJI)I" } : Jvm.MethodName)) ∈ jWS := jWS_in 313 rfl rfl
set_option maxRecDepth 100000 in
theorem w_273 : (Jvm.Cond.code ({ cls := "WireField", name := "source", desc := "(IIJI)I" } : Jvm.MethodName) prog_1_method_9_code (6 : Nat) (Option.some Jvm.ClassFile.FieldType.int)) ∈ jWS := jWS_in 314 rfl rfl
set_option maxRecDepth 100000 in
theorem w_274 : (Jvm.Cond.methodLink "WireField" (158 : Nat) ({ cls := "WireField$Source", name := "begin", desc := "(IIJI)V" } : Jvm.MethodName)) ∈ jWS := jWS_in 315 rfl rfl
set_option maxRecDepth 100000 in
theorem w_275 : (Jvm.Cond.instanceMethod ({ cls := "WireField$Source", name := "begin", desc := "(IIJI)V" } : Jvm.MethodName)) ∈ jWS := jWS_in 316 rfl rfl
set_option maxRecDepth 100000 in
theorem w_276 : (Jvm.Cond.selects "WireField$Source" ({ cls := "WireField$Source", name := "begin", desc := "(IIJI)V" } : Jvm.MethodName) ({ cls := "WireField$Source", name := "begin", desc := "(IIJI)V" } : Jvm.MethodName)) ∈ jWS := jWS_in 317 rfl rfl
set_option maxRecDepth 100000 in
theorem w_277 : (Jvm.Cond.code ({ cls := "WireField$Source", name := "begin", desc := "(IIJI)V" } : Jvm.MethodName) prog_6_method_2_code (6 : Nat) (Option.none : Option Jvm.ClassFile.FieldType)) ∈ jWS := jWS_in 318 rfl rfl
set_option maxRecDepth 100000 in
theorem w_278 : (Jvm.Cond.methodLink "WireFieldLaw" (75 : Nat) ({ cls := "WireField", name := "probe", desc := "(II)I" } : Jvm.MethodName)) ∈ jWS := jWS_in 319 rfl rfl
set_option maxRecDepth 100000 in
theorem w_279 : (Jvm.Cond.instanceMethod ({ cls := "WireField", name := "probe", desc := "(II)I" } : Jvm.MethodName)) ∈ jWS := jWS_in 320 rfl rfl
set_option maxRecDepth 100000 in
theorem w_280 : (Jvm.Cond.selects "WireField" ({ cls := "WireField", name := "probe", desc := "(II)I" } : Jvm.MethodName) ({ cls := "WireField", name := "probe", desc := "(II)I" } : Jvm.MethodName)) ∈ jWS := jWS_in 321 rfl rfl
set_option maxRecDepth 100000 in
theorem w_281 : (Jvm.Cond.code ({ cls := "WireField", name := "probe", desc := "(II)I" } : Jvm.MethodName) prog_1_method_10_code (3 : Nat) (Option.some Jvm.ClassFile.FieldType.int)) ∈ jWS := jWS_in 322 rfl rfl
set_option maxRecDepth 100000 in
theorem w_282 : (Jvm.Cond.methodLink "WireField" (161 : Nat) ({ cls := "WireField$Probe", name := "begin", desc := "(II)V" } : Jvm.MethodName)) ∈ jWS := jWS_in 323 rfl rfl
set_option maxRecDepth 100000 in
theorem w_283 : (Jvm.Cond.instanceMethod ({ cls := "WireField$Probe", name := "begin", desc := "(II)V" } : Jvm.MethodName)) ∈ jWS := jWS_in 324 rfl rfl
set_option maxRecDepth 100000 in
theorem w_284 : (Jvm.Cond.selects "WireField$Probe" ({ cls := "WireField$Probe", name := "begin", desc := "(II)V" } : Jvm.MethodName) ({ cls := "WireField$Probe", name := "begin", desc := "(II)V" } : Jvm.MethodName)) ∈ jWS := jWS_in 325 rfl rfl
set_option maxRecDepth 100000 in
theorem w_285 : (Jvm.Cond.code ({ cls := "WireField$Probe", name := "begin", desc := "(II)V" } : Jvm.MethodName) prog_5_method_2_code (3 : Nat) (Option.none : Option Jvm.ClassFile.FieldType)) ∈ jWS := jWS_in 326 rfl rfl
set_option maxRecDepth 100000 in
theorem w_286 : (Jvm.Cond.methodLink "WireFieldLaw" (79 : Nat) ({ cls := "WireField", name := "run", desc := "(I)I" } : Jvm.MethodName)) ∈ jWS := jWS_in 327 rfl rfl
set_option maxRecDepth 100000 in
theorem w_287 : (Jvm.Cond.instanceMethod ({ cls := "WireField", name := "run", desc := "(I)I" } : Jvm.MethodName)) ∈ jWS := jWS_in 328 rfl rfl
set_option maxRecDepth 100000 in
theorem w_288 : (Jvm.Cond.selects "WireField" ({ cls := "WireField", name := "run", desc := "(I)I" } : Jvm.MethodName) ({ cls := "WireField", name := "run", desc := "(I)I" } : Jvm.MethodName)) ∈ jWS := jWS_in 329 rfl rfl
set_option maxRecDepth 100000 in
theorem w_289 : (Jvm.Cond.code ({ cls := "WireField", name := "run", desc := "(I)I" } : Jvm.MethodName) prog_1_method_11_code (3 : Nat) (Option.some Jvm.ClassFile.FieldType.int)) ∈ jWS := jWS_in 330 rfl rfl
set_option maxRecDepth 100000 in
theorem w_290 : (Jvm.Cond.methodLink "WireField" (164 : Nat) ({ cls := "WireField", name := "makeGeneration", desc := "()V" } : Jvm.MethodName)) ∈ jWS := jWS_in 331 rfl rfl
set_option maxRecDepth 100000 in
theorem w_292 : (Jvm.Cond.instanceMethod ({ cls := "WireField", name := "makeGeneration", desc := "()V" } : Jvm.MethodName)) ∈ jWS := jWS_in 333 rfl rfl
set_option maxRecDepth 100000 in
theorem w_293 : (Jvm.Cond.code ({ cls := "WireField", name := "makeGeneration", desc := "()V" } : Jvm.MethodName) prog_1_method_24_code (2 : Nat) (Option.none : Option Jvm.ClassFile.FieldType)) ∈ jWS := jWS_in 334 rfl rfl
set_option maxRecDepth 100000 in
theorem w_294 : (Jvm.Cond.methodLink "WireField" (213 : Nat) ({ cls := "WireField", name := "keepMoment", desc := "()V" } : Jvm.MethodName)) ∈ jWS := jWS_in 335 rfl rfl
set_option maxRecDepth 100000 in
theorem w_296 : (Jvm.Cond.instanceMethod ({ cls := "WireField", name := "keepMoment", desc := "()V" } : Jvm.MethodName)) ∈ jWS := jWS_in 337 rfl rfl
set_option maxRecDepth 100000 in
theorem w_297 : (Jvm.Cond.code ({ cls := "WireField", name := "keepMoment", desc := "()V" } : Jvm.MethodName) prog_1_method_25_code (3 : Nat) (Option.none : Option Jvm.ClassFile.FieldType)) ∈ jWS := jWS_in 338 rfl rfl
set_option maxRecDepth 100000 in
theorem w_298 : (Jvm.Cond.methodLink "WireField" (171 : Nat) ({ cls := "WireField", name := "momentAt", desc := "(I)LWireField$Moment;" } : Jvm.MethodName)) ∈ jWS := jWS_in 339 rfl rfl
set_option maxRecDepth 100000 in
theorem w_300 : (Jvm.Cond.instanceMethod ({ cls := "WireField", name := "momentAt", desc := "(I)LWireField$Moment;" } : Jvm.MethodName)) ∈ jWS := jWS_in 341 rfl rfl
set_option maxRecDepth 100000 in
theorem w_301 : (Jvm.Cond.code ({ cls := "WireField", name := "momentAt", desc := "(I)LWireField$Moment;" } : Jvm.MethodName) prog_1_method_23_code (2 : Nat) (Option.some (Jvm.ClassFile.FieldType.object "WireField$Moment"))) ∈ jWS := jWS_in 342 rfl rfl
set_option maxRecDepth 100000 in
theorem w_302 : (Jvm.Cond.methodLink "WireField" (208 : Nat) ({ cls := "java/lang/Math", name := "floorMod", desc := "(II)I" } : Jvm.MethodName)) ∈ jWS := jWS_in 343 rfl rfl
set_option maxRecDepth 100000 in
theorem w_303 : (Jvm.Cond.static ({ cls := "java/lang/Math", name := "floorMod", desc := "(II)I" } : Jvm.MethodName)) ∈ jWS := jWS_in 344 rfl rfl
set_option maxRecDepth 100000 in
theorem w_304 : (Jvm.Cond.code ({ cls := "java/lang/Math", name := "floorMod", desc := "(II)I" } : Jvm.MethodName) prog_15_method_50_code (3 : Nat) (Option.some Jvm.ClassFile.FieldType.int)) ∈ jWS := jWS_in 345 rfl rfl
set_option maxRecDepth 100000 in
theorem w_305 : (Jvm.Cond.methodLink "WireField" (226 : Nat) ({ cls := "java/lang/Math", name := "min", desc := "(II)I" } : Jvm.MethodName)) ∈ jWS := jWS_in 346 rfl rfl
set_option maxRecDepth 100000 in
theorem w_306 : (Jvm.Cond.static ({ cls := "java/lang/Math", name := "min", desc := "(II)I" } : Jvm.MethodName)) ∈ jWS := jWS_in 347 rfl rfl
set_option maxRecDepth 100000 in
theorem w_307 : (Jvm.Cond.code ({ cls := "java/lang/Math", name := "min", desc := "(II)I" } : Jvm.MethodName) prog_15_method_69_code (2 : Nat) (Option.some Jvm.ClassFile.FieldType.int)) ∈ jWS := jWS_in 348 rfl rfl
set_option maxRecDepth 100000 in
theorem w_308 : (Jvm.Cond.methodLink "WireField" (216 : Nat) ({ cls := "WireField$Source", name := "actOn", desc := "(LWireField$Grid;)V" } : Jvm.MethodName)) ∈ jWS := jWS_in 349 rfl rfl
set_option maxRecDepth 100000 in
theorem w_309 : (Jvm.Cond.instanceMethod ({ cls := "WireField$Source", name := "actOn", desc := "(LWireField$Grid;)V" } : Jvm.MethodName)) ∈ jWS := jWS_in 350 rfl rfl
set_option maxRecDepth 100000 in
theorem w_310 : (Jvm.Cond.selects "WireField$Source" ({ cls := "WireField$Source", name := "actOn", desc := "(LWireField$Grid;)V" } : Jvm.MethodName) ({ cls := "WireField$Source", name := "actOn", desc := "(LWireField$Grid;)V" } : Jvm.MethodName)) ∈ jWS := jWS_in 351 rfl rfl
set_option maxRecDepth 100000 in
theorem w_311 : (Jvm.Cond.code ({ cls := "WireField$Source", name := "actOn", desc := "(LWireField$Grid;)V" } : Jvm.MethodName) prog_6_method_3_code (2 : Nat) (Option.none : Option Jvm.ClassFile.FieldType)) ∈ jWS := jWS_in 352 rfl rfl
set_option maxRecDepth 100000 in
theorem w_312 : (Jvm.Cond.methodLink "WireField$Source" (28 : Nat) ({ cls := "WireField$Grid", name := "valueAt", desc := "(II)I" } : Jvm.MethodName)) ∈ jWS := jWS_in 353 rfl rfl
set_option maxRecDepth 100000 in
theorem w_313 : (Jvm.Cond.methodLink "WireField$Source" (34 : Nat) ({ cls := "WireField$Grid", name := "put", desc := "(III)V" } : Jvm.MethodName)) ∈ jWS := jWS_in 354 rfl rfl
set_option maxRecDepth 100000 in
theorem w_314 : (Jvm.Cond.methodLink "WireField" (219 : Nat) ({ cls := "WireField$Grid", name := "becomeGenerationAfter", desc := "(LWireField$Grid;)V" } : Jvm.MethodName)) ∈ jWS := jWS_in 355 rfl rfl
set_option maxRecDepth 100000 in
theorem w_315 : (Jvm.Cond.instanceMethod ({ cls := "WireField$Grid", name := "becomeGenerationAfter", desc := "(LWireField$Grid;)V" } : Jvm.MethodName)) ∈ jWS := jWS_in 356 rfl rfl
set_option maxRecDepth 100000 in
theorem w_316 : (Jvm.Cond.selects "WireField$Grid" ({ cls := "WireField$Grid", name := "becomeGenerationAfter", desc := "(LWireField$Grid;)V" } : Jvm.MethodName) ({ cls := "WireField$Grid", name := "becomeGenerationAfter", desc := "(LWireField$Grid;)V" } : Jvm.MethodName)) ∈ jWS := jWS_in 357 rfl rfl
set_option maxRecDepth 100000 in
theorem w_317 : (Jvm.Cond.code ({ cls := "WireField$Grid", name := "becomeGenerationAfter", desc := "(LWireField$Grid;)V" } : Jvm.MethodName) prog_2_method_7_code (4 : Nat) (Option.none : Option Jvm.ClassFile.FieldType)) ∈ jWS := jWS_in 358 rfl rfl
set_option maxRecDepth 100000 in
theorem w_318 : (Jvm.Cond.methodLink "WireField$Grid" (37 : Nat) ({ cls := "WireField$Grid", name := "besideOneOrTwoHeads", desc := "(I)I" } : Jvm.MethodName)) ∈ jWS := jWS_in 359 rfl rfl
set_option maxRecDepth 100000 in
theorem w_320 : (Jvm.Cond.instanceMethod ({ cls := "WireField$Grid", name := "besideOneOrTwoHeads", desc := "(I)I" } : Jvm.MethodName)) ∈ jWS := jWS_in 361 rfl rfl
set_option maxRecDepth 100000 in
theorem w_321 : (Jvm.Cond.code ({ cls := "WireField$Grid", name := "besideOneOrTwoHeads", desc := "(I)I" } : Jvm.MethodName) prog_2_method_8_code (8 : Nat) (Option.some Jvm.ClassFile.FieldType.int)) ∈ jWS := jWS_in 362 rfl rfl
set_option maxRecDepth 100000 in
theorem w_322 : (Jvm.Cond.methodLink "WireField$Grid" (40 : Nat) ({ cls := "java/lang/Math", name := "max", desc := "(II)I" } : Jvm.MethodName)) ∈ jWS := jWS_in 363 rfl rfl
set_option maxRecDepth 100000 in
theorem w_323 : (Jvm.Cond.static ({ cls := "java/lang/Math", name := "max", desc := "(II)I" } : Jvm.MethodName)) ∈ jWS := jWS_in 364 rfl rfl
set_option maxRecDepth 100000 in
theorem w_324 : (Jvm.Cond.code ({ cls := "java/lang/Math", name := "max", desc := "(II)I" } : Jvm.MethodName) prog_15_method_65_code (2 : Nat) (Option.some Jvm.ClassFile.FieldType.int)) ∈ jWS := jWS_in 365 rfl rfl
set_option maxRecDepth 100000 in
theorem w_325 : (Jvm.Cond.methodLink "WireField" (222 : Nat) ({ cls := "WireField$Probe", name := "lookAt", desc := "(LWireField$Grid;I)V" } : Jvm.MethodName)) ∈ jWS := jWS_in 366 rfl rfl
set_option maxRecDepth 100000 in
theorem w_326 : (Jvm.Cond.instanceMethod ({ cls := "WireField$Probe", name := "lookAt", desc := "(LWireField$Grid;I)V" } : Jvm.MethodName)) ∈ jWS := jWS_in 367 rfl rfl
set_option maxRecDepth 100000 in
theorem w_327 : (Jvm.Cond.selects "WireField$Probe" ({ cls := "WireField$Probe", name := "lookAt", desc := "(LWireField$Grid;I)V" } : Jvm.MethodName) ({ cls := "WireField$Probe", name := "lookAt", desc := "(LWireField$Grid;I)V" } : Jvm.MethodName)) ∈ jWS := jWS_in 368 rfl rfl
set_option maxRecDepth 100000 in
theorem w_328 : (Jvm.Cond.code ({ cls := "WireField$Probe", name := "lookAt", desc := "(LWireField$Grid;I)V" } : Jvm.MethodName) prog_5_method_3_code (4 : Nat) (Option.none : Option Jvm.ClassFile.FieldType)) ∈ jWS := jWS_in 369 rfl rfl
set_option maxRecDepth 100000 in
theorem w_329 : (Jvm.Cond.methodLink "WireField$Probe" (28 : Nat) ({ cls := "WireField$Grid", name := "valueAt", desc := "(II)I" } : Jvm.MethodName)) ∈ jWS := jWS_in 370 rfl rfl
set_option maxRecDepth 100000 in
theorem w_330 : (Jvm.Cond.constantLong "WireField$Probe" (34 : Nat) (2 : Int64)) ∈ jWS := jWS_in 371 rfl rfl
set_option maxRecDepth 100000 in
theorem w_331 : (Jvm.Cond.methodLink "WireField" (167 : Nat) ({ cls := "WireField$Grid", name := "count", desc := "(I)I" } : Jvm.MethodName)) ∈ jWS := jWS_in 372 rfl rfl
set_option maxRecDepth 100000 in
theorem w_332 : (Jvm.Cond.instanceMethod ({ cls := "WireField$Grid", name := "count", desc := "(I)I" } : Jvm.MethodName)) ∈ jWS := jWS_in 373 rfl rfl
set_option maxRecDepth 100000 in
theorem w_333 : (Jvm.Cond.selects "WireField$Grid" ({ cls := "WireField$Grid", name := "count", desc := "(I)I" } : Jvm.MethodName) ({ cls := "WireField$Grid", name := "count", desc := "(I)I" } : Jvm.MethodName)) ∈ jWS := jWS_in 374 rfl rfl
set_option maxRecDepth 100000 in
theorem w_334 : (Jvm.Cond.code ({ cls := "WireField$Grid", name := "count", desc := "(I)I" } : Jvm.MethodName) prog_2_method_6_code (5 : Nat) (Option.some Jvm.ClassFile.FieldType.int)) ∈ jWS := jWS_in 375 rfl rfl
set_option maxRecDepth 100000 in
theorem w_335 : (Jvm.Cond.methodLink "WireField$Grid" (31 : Nat) ({ cls := "java/lang/Integer", name := "bitCount", desc := "(I)I" } : Jvm.MethodName)) ∈ jWS := jWS_in 376 rfl rfl
set_option maxRecDepth 100000 in
theorem w_336 : (Jvm.Cond.static ({ cls := "java/lang/Integer", name := "bitCount", desc := "(I)I" } : Jvm.MethodName)) ∈ jWS := jWS_in 377 rfl rfl
set_option maxRecDepth 100000 in
theorem w_337 : (Jvm.Cond.code ({ cls := "java/lang/Integer", name := "bitCount", desc := "(I)I" } : Jvm.MethodName) prog_14_method_49_code (1 : Nat) (Option.some Jvm.ClassFile.FieldType.int)) ∈ jWS := jWS_in 378 rfl rfl
set_option maxRecDepth 100000 in
theorem w_338 : (Jvm.Cond.constant "java/lang/Integer" (265 : Nat) (1431655765 : Int32)) ∈ jWS := jWS_in 379 rfl rfl
set_option maxRecDepth 100000 in
theorem w_339 : (Jvm.Cond.constant "java/lang/Integer" (266 : Nat) (858993459 : Int32)) ∈ jWS := jWS_in 380 rfl rfl
set_option maxRecDepth 100000 in
theorem w_340 : (Jvm.Cond.constant "java/lang/Integer" (267 : Nat) (252645135 : Int32)) ∈ jWS := jWS_in 381 rfl rfl
set_option maxRecDepth 100000 in
theorem w_341 : (Jvm.Cond.methodLink "WireFieldLaw" (84 : Nat) ({ cls := "WireField", name := "back", desc := "(I)Z" } : Jvm.MethodName)) ∈ jWS := jWS_in 382 rfl rfl
set_option maxRecDepth 100000 in
theorem w_342 : (Jvm.Cond.instanceMethod ({ cls := "WireField", name := "back", desc := "(I)Z" } : Jvm.MethodName)) ∈ jWS := jWS_in 383 rfl rfl
set_option maxRecDepth 100000 in
theorem w_343 : (Jvm.Cond.selects "WireField" ({ cls := "WireField", name := "back", desc := "(I)Z" } : Jvm.MethodName) ({ cls := "WireField", name := "back", desc := "(I)Z" } : Jvm.MethodName)) ∈ jWS := jWS_in 384 rfl rfl
set_option maxRecDepth 100000 in
theorem w_344 : (Jvm.Cond.code ({ cls := "WireField", name := "back", desc := "(I)Z" } : Jvm.MethodName) prog_1_method_12_code (4 : Nat) (Option.some Jvm.ClassFile.FieldType.boolean)) ∈ jWS := jWS_in 385 rfl rfl
set_option maxRecDepth 100000 in
theorem w_345 : (Jvm.Cond.methodLink "WireFieldLaw" (89 : Nat) ({ cls := "WireField", name := "period", desc := "()I" } : Jvm.MethodName)) ∈ jWS := jWS_in 386 rfl rfl
set_option maxRecDepth 100000 in
theorem w_346 : (Jvm.Cond.instanceMethod ({ cls := "WireField", name := "period", desc := "()I" } : Jvm.MethodName)) ∈ jWS := jWS_in 387 rfl rfl
set_option maxRecDepth 100000 in
theorem w_347 : (Jvm.Cond.selects "WireField" ({ cls := "WireField", name := "period", desc := "()I" } : Jvm.MethodName) ({ cls := "WireField", name := "period", desc := "()I" } : Jvm.MethodName)) ∈ jWS := jWS_in 388 rfl rfl
set_option maxRecDepth 100000 in
theorem w_348 : (Jvm.Cond.code ({ cls := "WireField", name := "period", desc := "()I" } : Jvm.MethodName) prog_1_method_13_code (2 : Nat) (Option.some Jvm.ClassFile.FieldType.int)) ∈ jWS := jWS_in 389 rfl rfl
set_option maxRecDepth 100000 in
theorem w_349 : (Jvm.Cond.methodLink "WireField" (185 : Nat) ({ cls := "WireField$Grid", name := "isSameAs", desc := "(LWireField$Grid;)Z" } : Jvm.MethodName)) ∈ jWS := jWS_in 390 rfl rfl
set_option maxRecDepth 100000 in
theorem w_350 : (Jvm.Cond.instanceMethod ({ cls := "WireField$Grid", name := "isSameAs", desc := "(LWireField$Grid;)Z" } : Jvm.MethodName)) ∈ jWS := jWS_in 391 rfl rfl
set_option maxRecDepth 100000 in
theorem w_351 : (Jvm.Cond.selects "WireField$Grid" ({ cls := "WireField$Grid", name := "isSameAs", desc := "(LWireField$Grid;)Z" } : Jvm.MethodName) ({ cls := "WireField$Grid", name := "isSameAs", desc := "(LWireField$Grid;)Z" } : Jvm.MethodName)) ∈ jWS := jWS_in 392 rfl rfl
set_option maxRecDepth 100000 in
theorem w_352 : (Jvm.Cond.code ({ cls := "WireField$Grid", name := "isSameAs", desc := "(LWireField$Grid;)Z" } : Jvm.MethodName) prog_2_method_5_code (3 : Nat) (Option.some Jvm.ClassFile.FieldType.boolean)) ∈ jWS := jWS_in 393 rfl rfl
set_option maxRecDepth 100000 in
theorem w_353 : (Jvm.Cond.methodLink "WireFieldLaw" (97 : Nat) ({ cls := "WireField", name := "record", desc := "(I)J" } : Jvm.MethodName)) ∈ jWS := jWS_in 394 rfl rfl
set_option maxRecDepth 100000 in
theorem w_354 : (Jvm.Cond.instanceMethod ({ cls := "WireField", name := "record", desc := "(I)J" } : Jvm.MethodName)) ∈ jWS := jWS_in 395 rfl rfl
set_option maxRecDepth 100000 in
theorem w_355 : (Jvm.Cond.selects "WireField" ({ cls := "WireField", name := "record", desc := "(I)J" } : Jvm.MethodName) ({ cls := "WireField", name := "record", desc := "(I)J" } : Jvm.MethodName)) ∈ jWS := jWS_in 396 rfl rfl
set_option maxRecDepth 100000 in
theorem w_356 : (Jvm.Cond.code ({ cls := "WireField", name := "record", desc := "(I)J" } : Jvm.MethodName) prog_1_method_15_code (2 : Nat) (Option.some Jvm.ClassFile.FieldType.long)) ∈ jWS := jWS_in 397 rfl rfl
set_option maxRecDepth 100000 in
theorem w_357 : (Jvm.Cond.methodLink "WireFieldLaw" (102 : Nat) ({ cls := "WireField", name := "look", desc := "(I)I" } : Jvm.MethodName)) ∈ jWS := jWS_in 398 rfl rfl
set_option maxRecDepth 100000 in
theorem w_358 : (Jvm.Cond.instanceMethod ({ cls := "WireField", name := "look", desc := "(I)I" } : Jvm.MethodName)) ∈ jWS := jWS_in 399 rfl rfl
set_option maxRecDepth 100000 in
theorem w_359 : (Jvm.Cond.selects "WireField" ({ cls := "WireField", name := "look", desc := "(I)I" } : Jvm.MethodName) ({ cls := "WireField", name := "look", desc := "(I)I" } : Jvm.MethodName)) ∈ jWS := jWS_in 400 rfl rfl
set_option maxRecDepth 100000 in
theorem w_360 : (Jvm.Cond.code ({ cls := "WireField", name := "look", desc := "(I)I" } : Jvm.MethodName) prog_1_method_16_code (2 : Nat) (Option.some Jvm.ClassFile.FieldType.int)) ∈ jWS := jWS_in 401 rfl rfl
set_option maxRecDepth 100000 in
theorem w_361 : (Jvm.Cond.methodLink "WireFieldLaw" (36 : Nat) ({ cls := "WireFieldLaw", name := "draw", desc := "(LWireField;III[J)I" } : Jvm.MethodName)) ∈ jWS := jWS_in 402 rfl rfl
set_option maxRecDepth 100000 in
theorem w_362 : (Jvm.Cond.static ({ cls := "WireFieldLaw", name := "draw", desc := "(LWireField;III[J)I" } : Jvm.MethodName)) ∈ jWS := jWS_in 403 rfl rfl
set_option maxRecDepth 100000 in
theorem w_364 : (Jvm.Cond.classLink "WireFieldLaw" (13 : Nat) "java/lang/IndexOutOfBoundsException") ∈ jWS := jWS_in 405 rfl rfl
set_option maxRecDepth 100000 in
theorem w_365 : (Jvm.Cond.classLink "WireFieldLaw" (15 : Nat) "java/lang/IllegalArgumentException") ∈ jWS := jWS_in 406 rfl rfl
set_option maxRecDepth 100000 in
theorem w_366 : (Jvm.Cond.classLink "WireFieldLaw" (17 : Nat) "java/lang/UnsupportedOperationException") ∈ jWS := jWS_in 407 rfl rfl
set_option maxRecDepth 100000 in
theorem w_367 : (Jvm.Cond.methodLink "WireFieldLaw" (7 : Nat) ({ cls := "WireField", name := "draw", desc := "(III)I" } : Jvm.MethodName)) ∈ jWS := jWS_in 408 rfl rfl
set_option maxRecDepth 100000 in
theorem w_368 : (Jvm.Cond.instanceMethod ({ cls := "WireField", name := "draw", desc := "(III)I" } : Jvm.MethodName)) ∈ jWS := jWS_in 409 rfl rfl
set_option maxRecDepth 100000 in
theorem w_369 : (Jvm.Cond.selects "WireField" ({ cls := "WireField", name := "draw", desc := "(III)I" } : Jvm.MethodName) ({ cls := "WireField", name := "draw", desc := "(III)I" } : Jvm.MethodName)) ∈ jWS := jWS_in 410 rfl rfl
set_option maxRecDepth 100000 in
theorem w_370 : (Jvm.Cond.code ({ cls := "WireField", name := "draw", desc := "(III)I" } : Jvm.MethodName) prog_1_method_3_code (4 : Nat) (Option.some Jvm.ClassFile.FieldType.int)) ∈ jWS := jWS_in 411 rfl rfl
set_option maxRecDepth 100000 in
theorem w_371 : (Jvm.Cond.classLink "WireField" (83 : Nat) "java/lang/IndexOutOfBoundsException") ∈ jWS := jWS_in 412 rfl rfl
set_option maxRecDepth 100000 in
theorem w_372 : (Jvm.Cond.instantiable "java/lang/IndexOutOfBoundsException" (6 : Nat)) ∈ jWS := jWS_in 413 rfl rfl
set_option maxRecDepth 100000 in
theorem w_380 : (Jvm.Cond.selects "java/lang/IndexOutOfBoundsException" ({ cls := "java/lang/Throwable", name := "fillInStackTrace", desc := "(I)Ljava/lang/Throwable;" } : Jvm.MethodName) ({ cls := "java/lang/Throwable", name := "fillInStackTrace", desc := "(I)Ljava/lang/Throwable;" } : Jvm.MethodName)) ∈ jWS := jWS_in 421 rfl rfl
set_option maxRecDepth 100000 in
theorem w_381 : (Jvm.Cond.selects "java/lang/IndexOutOfBoundsException" ({ cls := "java/lang/Throwable", name := "fillInStackTrace", desc := "()Ljava/lang/Throwable;" } : Jvm.MethodName) ({ cls := "java/lang/Throwable", name := "fillInStackTrace", desc := "()Ljava/lang/Throwable;" } : Jvm.MethodName)) ∈ jWS := jWS_in 422 rfl rfl
set_option maxRecDepth 100000 in
theorem w_382 : (Jvm.Cond.lays "java/lang/IndexOutOfBoundsException" "java/lang/Throwable" "cause" "Ljava/lang/Throwable;") ∈ jWS := jWS_in 423 rfl rfl
set_option maxRecDepth 100000 in
theorem w_383 : (Jvm.Cond.lays "java/lang/Throwable" "java/lang/Throwable" "cause" "Ljava/lang/Throwable;") ∈ jWS := jWS_in 424 rfl rfl
set_option maxRecDepth 100000 in
theorem w_384 : (Jvm.Cond.lays "java/lang/IndexOutOfBoundsException" "java/lang/Throwable" "stackTrace" "[Ljava/lang/StackTraceElement;") ∈ jWS := jWS_in 425 rfl rfl
set_option maxRecDepth 100000 in
theorem w_385 : (Jvm.Cond.lays "java/lang/Throwable" "java/lang/Throwable" "stackTrace" "[Ljava/lang/StackTraceElement;") ∈ jWS := jWS_in 426 rfl rfl
set_option maxRecDepth 100000 in
theorem w_386 : (Jvm.Cond.lays "java/lang/IndexOutOfBoundsException" "java/lang/Throwable" "suppressedExceptions" "Ljava/util/List;") ∈ jWS := jWS_in 427 rfl rfl
set_option maxRecDepth 100000 in
theorem w_387 : (Jvm.Cond.lays "java/lang/Throwable" "java/lang/Throwable" "suppressedExceptions" "Ljava/util/List;") ∈ jWS := jWS_in 428 rfl rfl
set_option maxRecDepth 100000 in
theorem w_388 : (Jvm.Cond.lays "java/lang/IndexOutOfBoundsException" "java/lang/Throwable" "detailMessage" "Ljava/lang/String;") ∈ jWS := jWS_in 429 rfl rfl
set_option maxRecDepth 100000 in
theorem w_389 : (Jvm.Cond.lays "java/lang/Throwable" "java/lang/Throwable" "detailMessage" "Ljava/lang/String;") ∈ jWS := jWS_in 430 rfl rfl
set_option maxRecDepth 100000 in
theorem w_390 : (Jvm.Cond.lays "java/lang/IndexOutOfBoundsException" "java/lang/Throwable" "backtrace" "Ljava/lang/Object;") ∈ jWS := jWS_in 431 rfl rfl
set_option maxRecDepth 100000 in
theorem w_391 : (Jvm.Cond.lays "java/lang/Throwable" "java/lang/Throwable" "backtrace" "Ljava/lang/Object;") ∈ jWS := jWS_in 432 rfl rfl
set_option maxRecDepth 100000 in
theorem w_392 : (Jvm.Cond.fieldLink "java/lang/Throwable" (198 : Nat) "java/lang/Throwable" "backtrace" "Ljava/lang/Object;") ∈ jWS := jWS_in 433 rfl rfl
set_option maxRecDepth 100000 in
theorem w_394 : (Jvm.Cond.instanceMethod ({ cls := "java/lang/Throwable", name := "<init>", desc := "()V" } : Jvm.MethodName)) ∈ jWS := jWS_in 435 rfl rfl
set_option maxRecDepth 100000 in
theorem w_395 : (Jvm.Cond.code ({ cls := "java/lang/Throwable", name := "<init>", desc := "()V" } : Jvm.MethodName) prog_21_method_1_code (1 : Nat) (Option.none : Option Jvm.ClassFile.FieldType)) ∈ jWS := jWS_in 436 rfl rfl
set_option maxRecDepth 100000 in
theorem w_396 : (Jvm.Cond.methodLink "java/lang/Throwable" (1 : Nat) ({ cls := "java/lang/Object", name := "<init>", desc := "()V" } : Jvm.MethodName)) ∈ jWS := jWS_in 437 rfl rfl
set_option maxRecDepth 100000 in
theorem w_397 : (Jvm.Cond.fieldLink "java/lang/Throwable" (13 : Nat) "java/lang/Throwable" "UNASSIGNED_STACK" "[Ljava/lang/StackTraceElement;") ∈ jWS := jWS_in 438 rfl rfl
set_option maxRecDepth 100000 in
theorem w_399 : (Jvm.Cond.fieldLink "java/lang/Throwable" (20 : Nat) "java/lang/Throwable" "SUPPRESSED_SENTINEL" "Ljava/util/List;") ∈ jWS := jWS_in 440 rfl rfl
set_option maxRecDepth 100000 in
theorem w_401 : (Jvm.Cond.methodLink "java/lang/Throwable" (27 : Nat) ({ cls := "java/lang/Throwable", name := "fillInStackTrace", desc := "()Ljava/lang/Throwable;" } : Jvm.MethodName)) ∈ jWS := jWS_in 442 rfl rfl
set_option maxRecDepth 100000 in
theorem w_402 : (Jvm.Cond.instanceMethod ({ cls := "java/lang/Throwable", name := "fillInStackTrace", desc := "()Ljava/lang/Throwable;" } : Jvm.MethodName)) ∈ jWS := jWS_in 443 rfl rfl
set_option maxRecDepth 100000 in
theorem w_404 : (Jvm.Cond.selects "java/lang/IllegalArgumentException" ({ cls := "java/lang/Throwable", name := "fillInStackTrace", desc := "()Ljava/lang/Throwable;" } : Jvm.MethodName) ({ cls := "java/lang/Throwable", name := "fillInStackTrace", desc := "()Ljava/lang/Throwable;" } : Jvm.MethodName)) ∈ jWS := jWS_in 445 rfl rfl
set_option maxRecDepth 100000 in
theorem w_405 : (Jvm.Cond.selects "java/lang/UnsupportedOperationException" ({ cls := "java/lang/Throwable", name := "fillInStackTrace", desc := "()Ljava/lang/Throwable;" } : Jvm.MethodName) ({ cls := "java/lang/Throwable", name := "fillInStackTrace", desc := "()Ljava/lang/Throwable;" } : Jvm.MethodName)) ∈ jWS := jWS_in 446 rfl rfl
set_option maxRecDepth 100000 in
theorem w_407 : (Jvm.Cond.methodLink "java/lang/Throwable" (202 : Nat) ({ cls := "java/lang/Throwable", name := "fillInStackTrace", desc := "(I)Ljava/lang/Throwable;" } : Jvm.MethodName)) ∈ jWS := jWS_in 448 rfl rfl
set_option maxRecDepth 100000 in
theorem w_409 : (Jvm.Cond.instanceMethod ({ cls := "java/lang/Throwable", name := "fillInStackTrace", desc := "(I)Ljava/lang/Throwable;" } : Jvm.MethodName)) ∈ jWS := jWS_in 450 rfl rfl
set_option maxRecDepth 100000 in
theorem w_410 : (Jvm.Cond.instantiable "java/lang/Throwable" (6 : Nat)) ∈ jWS := jWS_in 451 rfl rfl
set_option maxRecDepth 100000 in
theorem w_411 : (Jvm.Cond.native ({ cls := "java/lang/Throwable", name := "fillInStackTrace", desc := "(I)Ljava/lang/Throwable;" } : Jvm.MethodName)) ∈ jWS := jWS_in 452 rfl rfl
set_option maxRecDepth 100000 in
theorem w_413 : (Jvm.Cond.methodLink "WireField" (87 : Nat) ({ cls := "java/lang/IndexOutOfBoundsException", name := "<init>", desc := "(Ljava/lang/String;)V" } : Jvm.MethodName)) ∈ jWS := jWS_in 454 rfl rfl
set_option maxRecDepth 100000 in
theorem w_414 : (Jvm.Cond.instanceMethod ({ cls := "java/lang/IndexOutOfBoundsException", name := "<init>", desc := "(Ljava/lang/String;)V" } : Jvm.MethodName)) ∈ jWS := jWS_in 455 rfl rfl
set_option maxRecDepth 100000 in
theorem w_415 : (Jvm.Cond.code ({ cls := "java/lang/IndexOutOfBoundsException", name := "<init>", desc := "(Ljava/lang/String;)V" } : Jvm.MethodName) prog_13_method_2_code (2 : Nat) (Option.none : Option Jvm.ClassFile.FieldType)) ∈ jWS := jWS_in 456 rfl rfl
set_option maxRecDepth 100000 in
theorem w_416 : (Jvm.Cond.methodLink "java/lang/IndexOutOfBoundsException" (7 : Nat) ({ cls := "java/lang/RuntimeException", name := "<init>", desc := "(Ljava/lang/String;)V" } : Jvm.MethodName)) ∈ jWS := jWS_in 457 rfl rfl
set_option maxRecDepth 100000 in
theorem w_417 : (Jvm.Cond.instanceMethod ({ cls := "java/lang/RuntimeException", name := "<init>", desc := "(Ljava/lang/String;)V" } : Jvm.MethodName)) ∈ jWS := jWS_in 458 rfl rfl
set_option maxRecDepth 100000 in
theorem w_418 : (Jvm.Cond.code ({ cls := "java/lang/RuntimeException", name := "<init>", desc := "(Ljava/lang/String;)V" } : Jvm.MethodName) prog_16_method_2_code (2 : Nat) (Option.none : Option Jvm.ClassFile.FieldType)) ∈ jWS := jWS_in 459 rfl rfl
set_option maxRecDepth 100000 in
theorem w_419 : (Jvm.Cond.methodLink "java/lang/RuntimeException" (7 : Nat) ({ cls := "java/lang/Exception", name := "<init>", desc := "(Ljava/lang/String;)V" } : Jvm.MethodName)) ∈ jWS := jWS_in 460 rfl rfl
set_option maxRecDepth 100000 in
theorem w_420 : (Jvm.Cond.instanceMethod ({ cls := "java/lang/Exception", name := "<init>", desc := "(Ljava/lang/String;)V" } : Jvm.MethodName)) ∈ jWS := jWS_in 461 rfl rfl
set_option maxRecDepth 100000 in
theorem w_421 : (Jvm.Cond.code ({ cls := "java/lang/Exception", name := "<init>", desc := "(Ljava/lang/String;)V" } : Jvm.MethodName) prog_11_method_2_code (2 : Nat) (Option.none : Option Jvm.ClassFile.FieldType)) ∈ jWS := jWS_in 462 rfl rfl
set_option maxRecDepth 100000 in
theorem w_422 : (Jvm.Cond.methodLink "java/lang/Exception" (7 : Nat) ({ cls := "java/lang/Throwable", name := "<init>", desc := "(Ljava/lang/String;)V" } : Jvm.MethodName)) ∈ jWS := jWS_in 463 rfl rfl
set_option maxRecDepth 100000 in
theorem w_423 : (Jvm.Cond.instanceMethod ({ cls := "java/lang/Throwable", name := "<init>", desc := "(Ljava/lang/String;)V" } : Jvm.MethodName)) ∈ jWS := jWS_in 464 rfl rfl
set_option maxRecDepth 100000 in
theorem w_424 : (Jvm.Cond.code ({ cls := "java/lang/Throwable", name := "<init>", desc := "(Ljava/lang/String;)V" } : Jvm.MethodName) prog_21_method_2_code (2 : Nat) (Option.none : Option Jvm.ClassFile.FieldType)) ∈ jWS := jWS_in 465 rfl rfl
set_option maxRecDepth 100000 in
theorem w_426 : (Jvm.Cond.fieldLink "java/lang/Throwable" (31 : Nat) "java/lang/Throwable" "detailMessage" "Ljava/lang/String;") ∈ jWS := jWS_in 467 rfl rfl
set_option maxRecDepth 100000 in
theorem w_427 : (Jvm.Cond.fieldLink "java/lang/Throwable" (7 : Nat) "java/lang/Throwable" "cause" "Ljava/lang/Throwable;") ∈ jWS := jWS_in 468 rfl rfl
set_option maxRecDepth 100000 in
theorem w_428 : (Jvm.Cond.fieldLink "java/lang/Throwable" (17 : Nat) "java/lang/Throwable" "stackTrace" "[Ljava/lang/StackTraceElement;") ∈ jWS := jWS_in 469 rfl rfl
set_option maxRecDepth 100000 in
theorem w_429 : (Jvm.Cond.fieldLink "java/lang/Throwable" (24 : Nat) "java/lang/Throwable" "suppressedExceptions" "Ljava/util/List;") ∈ jWS := jWS_in 470 rfl rfl
set_option maxRecDepth 100000 in
theorem w_434 : (Jvm.Cond.lays "java/lang/IndexOutOfBoundsException" "java/lang/Throwable" "depth" "I") ∈ jWS := jWS_in 475 rfl rfl
set_option maxRecDepth 100000 in
theorem w_438 : (Jvm.Cond.arrayClass Jvm.ClassFile.FieldType.byte) ∈ jWS := jWS_in 479 rfl rfl
set_option maxRecDepth 100000 in
theorem w_439 : (Jvm.Cond.methodLink "WireField" (90 : Nat) ({ cls := "WireField$Text", name := "isOrders", desc := "(I)Z" } : Jvm.MethodName)) ∈ jWS := jWS_in 480 rfl rfl
set_option maxRecDepth 100000 in
theorem w_440 : (Jvm.Cond.instanceMethod ({ cls := "WireField$Text", name := "isOrders", desc := "(I)Z" } : Jvm.MethodName)) ∈ jWS := jWS_in 481 rfl rfl
set_option maxRecDepth 100000 in
theorem w_441 : (Jvm.Cond.selects "WireField$Text" ({ cls := "WireField$Text", name := "isOrders", desc := "(I)Z" } : Jvm.MethodName) ({ cls := "WireField$Text", name := "isOrders", desc := "(I)Z" } : Jvm.MethodName)) ∈ jWS := jWS_in 482 rfl rfl
set_option maxRecDepth 100000 in
theorem w_442 : (Jvm.Cond.code ({ cls := "WireField$Text", name := "isOrders", desc := "(I)Z" } : Jvm.MethodName) prog_7_method_9_code (2 : Nat) (Option.some Jvm.ClassFile.FieldType.boolean)) ∈ jWS := jWS_in 483 rfl rfl
set_option maxRecDepth 100000 in
theorem w_443 : (Jvm.Cond.methodLink "WireField$Text" (37 : Nat) ({ cls := "WireField$Text", name := "endOfOrders", desc := "(III)I" } : Jvm.MethodName)) ∈ jWS := jWS_in 484 rfl rfl
set_option maxRecDepth 100000 in
theorem w_445 : (Jvm.Cond.instanceMethod ({ cls := "WireField$Text", name := "endOfOrders", desc := "(III)I" } : Jvm.MethodName)) ∈ jWS := jWS_in 486 rfl rfl
set_option maxRecDepth 100000 in
theorem w_446 : (Jvm.Cond.code ({ cls := "WireField$Text", name := "endOfOrders", desc := "(III)I" } : Jvm.MethodName) prog_7_method_12_code (6 : Nat) (Option.some Jvm.ClassFile.FieldType.int)) ∈ jWS := jWS_in 487 rfl rfl
set_option maxRecDepth 100000 in
theorem w_447 : (Jvm.Cond.methodLink "WireField$Text" (25 : Nat) ({ cls := "WireField$Text", name := "signAt", desc := "(I)C" } : Jvm.MethodName)) ∈ jWS := jWS_in 488 rfl rfl
set_option maxRecDepth 100000 in
theorem w_448 : (Jvm.Cond.instanceMethod ({ cls := "WireField$Text", name := "signAt", desc := "(I)C" } : Jvm.MethodName)) ∈ jWS := jWS_in 489 rfl rfl
set_option maxRecDepth 100000 in
theorem w_449 : (Jvm.Cond.selects "WireField$Text" ({ cls := "WireField$Text", name := "signAt", desc := "(I)C" } : Jvm.MethodName) ({ cls := "WireField$Text", name := "signAt", desc := "(I)C" } : Jvm.MethodName)) ∈ jWS := jWS_in 490 rfl rfl
set_option maxRecDepth 100000 in
theorem w_450 : (Jvm.Cond.code ({ cls := "WireField$Text", name := "signAt", desc := "(I)C" } : Jvm.MethodName) prog_7_method_5_code (2 : Nat) (Option.some Jvm.ClassFile.FieldType.char)) ∈ jWS := jWS_in 491 rfl rfl
set_option maxRecDepth 100000 in
theorem w_451 : (Jvm.Cond.methodLink "WireField$Text" (44 : Nat) ({ cls := "WireField$Text", name := "isClosing", desc := "(C)Z" } : Jvm.MethodName)) ∈ jWS := jWS_in 492 rfl rfl
set_option maxRecDepth 100000 in
theorem w_452 : (Jvm.Cond.static ({ cls := "WireField$Text", name := "isClosing", desc := "(C)Z" } : Jvm.MethodName)) ∈ jWS := jWS_in 493 rfl rfl
set_option maxRecDepth 100000 in
theorem w_453 : (Jvm.Cond.code ({ cls := "WireField$Text", name := "isClosing", desc := "(C)Z" } : Jvm.MethodName) prog_7_method_15_code (1 : Nat) (Option.some Jvm.ClassFile.FieldType.boolean)) ∈ jWS := jWS_in 494 rfl rfl
set_option maxRecDepth 100000 in
theorem w_454 : (Jvm.Cond.methodLink "WireField$Text" (33 : Nat) ({ cls := "WireField$Text", name := "digitsAt", desc := "(I)I" } : Jvm.MethodName)) ∈ jWS := jWS_in 495 rfl rfl
set_option maxRecDepth 100000 in
theorem w_455 : (Jvm.Cond.instanceMethod ({ cls := "WireField$Text", name := "digitsAt", desc := "(I)I" } : Jvm.MethodName)) ∈ jWS := jWS_in 496 rfl rfl
set_option maxRecDepth 100000 in
theorem w_456 : (Jvm.Cond.selects "WireField$Text" ({ cls := "WireField$Text", name := "digitsAt", desc := "(I)I" } : Jvm.MethodName) ({ cls := "WireField$Text", name := "digitsAt", desc := "(I)I" } : Jvm.MethodName)) ∈ jWS := jWS_in 497 rfl rfl
set_option maxRecDepth 100000 in
theorem w_457 : (Jvm.Cond.code ({ cls := "WireField$Text", name := "digitsAt", desc := "(I)I" } : Jvm.MethodName) prog_7_method_6_code (2 : Nat) (Option.some Jvm.ClassFile.FieldType.int)) ∈ jWS := jWS_in 498 rfl rfl
set_option maxRecDepth 100000 in
theorem w_458 : (Jvm.Cond.methodLink "WireField$Text" (29 : Nat) ({ cls := "WireField$Text", name := "isDigit", desc := "(C)Z" } : Jvm.MethodName)) ∈ jWS := jWS_in 499 rfl rfl
set_option maxRecDepth 100000 in
theorem w_459 : (Jvm.Cond.static ({ cls := "WireField$Text", name := "isDigit", desc := "(C)Z" } : Jvm.MethodName)) ∈ jWS := jWS_in 500 rfl rfl
set_option maxRecDepth 100000 in
theorem w_460 : (Jvm.Cond.code ({ cls := "WireField$Text", name := "isDigit", desc := "(C)Z" } : Jvm.MethodName) prog_7_method_8_code (1 : Nat) (Option.some Jvm.ClassFile.FieldType.boolean)) ∈ jWS := jWS_in 501 rfl rfl
set_option maxRecDepth 100000 in
theorem w_461 : (Jvm.Cond.methodLink "WireField$Text" (41 : Nat) ({ cls := "WireField$Text", name := "endOfOrder", desc := "(III)I" } : Jvm.MethodName)) ∈ jWS := jWS_in 502 rfl rfl
set_option maxRecDepth 100000 in
theorem w_463 : (Jvm.Cond.instanceMethod ({ cls := "WireField$Text", name := "endOfOrder", desc := "(III)I" } : Jvm.MethodName)) ∈ jWS := jWS_in 504 rfl rfl
set_option maxRecDepth 100000 in
theorem w_464 : (Jvm.Cond.code ({ cls := "WireField$Text", name := "endOfOrder", desc := "(III)I" } : Jvm.MethodName) prog_7_method_13_code (6 : Nat) (Option.some Jvm.ClassFile.FieldType.int)) ∈ jWS := jWS_in 505 rfl rfl
set_option maxRecDepth 100000 in
theorem w_465 : (Jvm.Cond.methodLink "WireField$Text" (47 : Nat) ({ cls := "WireField$Text", name := "endOfBracket", desc := "(ICII)I" } : Jvm.MethodName)) ∈ jWS := jWS_in 506 rfl rfl
set_option maxRecDepth 100000 in
theorem w_467 : (Jvm.Cond.instanceMethod ({ cls := "WireField$Text", name := "endOfBracket", desc := "(ICII)I" } : Jvm.MethodName)) ∈ jWS := jWS_in 508 rfl rfl
set_option maxRecDepth 100000 in
theorem w_468 : (Jvm.Cond.code ({ cls := "WireField$Text", name := "endOfBracket", desc := "(ICII)I" } : Jvm.MethodName) prog_7_method_14_code (6 : Nat) (Option.some Jvm.ClassFile.FieldType.int)) ∈ jWS := jWS_in 509 rfl rfl
set_option maxRecDepth 100000 in
theorem w_470 : (Jvm.Cond.methodLink "WireField$Text" (53 : Nat) ({ cls := "java/lang/String", name := "indexOf", desc := "(I)I" } : Jvm.MethodName)) ∈ jWS := jWS_in 511 rfl rfl
set_option maxRecDepth 100000 in
theorem w_471 : (Jvm.Cond.instanceMethod ({ cls := "java/lang/String", name := "indexOf", desc := "(I)I" } : Jvm.MethodName)) ∈ jWS := jWS_in 512 rfl rfl
set_option maxRecDepth 100000 in
theorem w_472 : (Jvm.Cond.selects "java/lang/String" ({ cls := "java/lang/String", name := "indexOf", desc := "(I)I" } : Jvm.MethodName) ({ cls := "java/lang/String", name := "indexOf", desc := "(I)I" } : Jvm.MethodName)) ∈ jWS := jWS_in 513 rfl rfl
set_option maxRecDepth 100000 in
theorem w_473 : (Jvm.Cond.code ({ cls := "java/lang/String", name := "indexOf", desc := "(I)I" } : Jvm.MethodName) prog_17_method_79_code (2 : Nat) (Option.some Jvm.ClassFile.FieldType.int)) ∈ jWS := jWS_in 514 rfl rfl
set_option maxRecDepth 100000 in
theorem w_474 : (Jvm.Cond.methodLink "java/lang/String" (633 : Nat) ({ cls := "java/lang/String", name := "indexOf", desc := "(II)I" } : Jvm.MethodName)) ∈ jWS := jWS_in 515 rfl rfl
set_option maxRecDepth 100000 in
theorem w_475 : (Jvm.Cond.instanceMethod ({ cls := "java/lang/String", name := "indexOf", desc := "(II)I" } : Jvm.MethodName)) ∈ jWS := jWS_in 516 rfl rfl
set_option maxRecDepth 100000 in
theorem w_476 : (Jvm.Cond.selects "java/lang/String" ({ cls := "java/lang/String", name := "indexOf", desc := "(II)I" } : Jvm.MethodName) ({ cls := "java/lang/String", name := "indexOf", desc := "(II)I" } : Jvm.MethodName)) ∈ jWS := jWS_in 517 rfl rfl
set_option maxRecDepth 100000 in
theorem w_477 : (Jvm.Cond.code ({ cls := "java/lang/String", name := "indexOf", desc := "(II)I" } : Jvm.MethodName) prog_17_method_80_code (3 : Nat) (Option.some Jvm.ClassFile.FieldType.int)) ∈ jWS := jWS_in 518 rfl rfl
set_option maxRecDepth 100000 in
theorem w_478 : (Jvm.Cond.methodLink "java/lang/String" (492 : Nat) ({ cls := "java/lang/String", name := "isLatin1", desc := "()Z" } : Jvm.MethodName)) ∈ jWS := jWS_in 519 rfl rfl
set_option maxRecDepth 100000 in
theorem w_479 : (Jvm.Cond.instanceMethod ({ cls := "java/lang/String", name := "isLatin1", desc := "()Z" } : Jvm.MethodName)) ∈ jWS := jWS_in 520 rfl rfl
set_option maxRecDepth 100000 in
theorem w_480 : (Jvm.Cond.selects "java/lang/String" ({ cls := "java/lang/String", name := "isLatin1", desc := "()Z" } : Jvm.MethodName) ({ cls := "java/lang/String", name := "isLatin1", desc := "()Z" } : Jvm.MethodName)) ∈ jWS := jWS_in 521 rfl rfl
set_option maxRecDepth 100000 in
theorem w_481 : (Jvm.Cond.code ({ cls := "java/lang/String", name := "isLatin1", desc := "()Z" } : Jvm.MethodName) prog_17_method_154_code (1 : Nat) (Option.some Jvm.ClassFile.FieldType.boolean)) ∈ jWS := jWS_in 522 rfl rfl
set_option maxRecDepth 100000 in
theorem w_482 : (Jvm.Cond.fieldLink "java/lang/String" (38 : Nat) "java/lang/String" "COMPACT_STRINGS" "Z") ∈ jWS := jWS_in 523 rfl rfl
set_option maxRecDepth 100000 in
theorem w_484 : (Jvm.Cond.methodLink "java/lang/String" (505 : Nat) ({ cls := "java/lang/String", name := "length", desc := "()I" } : Jvm.MethodName)) ∈ jWS := jWS_in 525 rfl rfl
set_option maxRecDepth 100000 in
theorem w_485 : (Jvm.Cond.instanceMethod ({ cls := "java/lang/String", name := "length", desc := "()I" } : Jvm.MethodName)) ∈ jWS := jWS_in 526 rfl rfl
set_option maxRecDepth 100000 in
theorem w_486 : (Jvm.Cond.selects "java/lang/String" ({ cls := "java/lang/String", name := "length", desc := "()I" } : Jvm.MethodName) ({ cls := "java/lang/String", name := "length", desc := "()I" } : Jvm.MethodName)) ∈ jWS := jWS_in 527 rfl rfl
set_option maxRecDepth 100000 in
theorem w_487 : (Jvm.Cond.code ({ cls := "java/lang/String", name := "length", desc := "()I" } : Jvm.MethodName) prog_17_method_54_code (1 : Nat) (Option.some Jvm.ClassFile.FieldType.int)) ∈ jWS := jWS_in 528 rfl rfl
set_option maxRecDepth 100000 in
theorem w_488 : (Jvm.Cond.methodLink "java/lang/String" (335 : Nat) ({ cls := "java/lang/String", name := "coder", desc := "()B" } : Jvm.MethodName)) ∈ jWS := jWS_in 529 rfl rfl
set_option maxRecDepth 100000 in
theorem w_489 : (Jvm.Cond.instanceMethod ({ cls := "java/lang/String", name := "coder", desc := "()B" } : Jvm.MethodName)) ∈ jWS := jWS_in 530 rfl rfl
set_option maxRecDepth 100000 in
theorem w_490 : (Jvm.Cond.selects "java/lang/String" ({ cls := "java/lang/String", name := "coder", desc := "()B" } : Jvm.MethodName) ({ cls := "java/lang/String", name := "coder", desc := "()B" } : Jvm.MethodName)) ∈ jWS := jWS_in 531 rfl rfl
set_option maxRecDepth 100000 in
theorem w_491 : (Jvm.Cond.code ({ cls := "java/lang/String", name := "coder", desc := "()B" } : Jvm.MethodName) prog_17_method_152_code (1 : Nat) (Option.some Jvm.ClassFile.FieldType.byte)) ∈ jWS := jWS_in 532 rfl rfl
set_option maxRecDepth 100000 in
theorem w_492 : (Jvm.Cond.methodLink "java/lang/String" (637 : Nat) ({ cls := "java/lang/StringLatin1", name := "indexOf", desc := "([BIII)I" } : Jvm.MethodName)) ∈ jWS := jWS_in 533 rfl rfl
set_option maxRecDepth 100000 in
theorem w_493 : (Jvm.Cond.static ({ cls := "java/lang/StringLatin1", name := "indexOf", desc := "([BIII)I" } : Jvm.MethodName)) ∈ jWS := jWS_in 534 rfl rfl
set_option maxRecDepth 100000 in
theorem w_494 : (Jvm.Cond.code ({ cls := "java/lang/StringLatin1", name := "indexOf", desc := "([BIII)I" } : Jvm.MethodName) prog_18_method_22_code (4 : Nat) (Option.some Jvm.ClassFile.FieldType.int)) ∈ jWS := jWS_in 535 rfl rfl
set_option maxRecDepth 100000 in
theorem w_495 : (Jvm.Cond.methodLink "java/lang/StringLatin1" (88 : Nat) ({ cls := "java/lang/StringLatin1", name := "canEncode", desc := "(I)Z" } : Jvm.MethodName)) ∈ jWS := jWS_in 536 rfl rfl
set_option maxRecDepth 100000 in
theorem w_496 : (Jvm.Cond.static ({ cls := "java/lang/StringLatin1", name := "canEncode", desc := "(I)Z" } : Jvm.MethodName)) ∈ jWS := jWS_in 537 rfl rfl
set_option maxRecDepth 100000 in
theorem w_497 : (Jvm.Cond.code ({ cls := "java/lang/StringLatin1", name := "canEncode", desc := "(I)Z" } : Jvm.MethodName) prog_18_method_4_code (1 : Nat) (Option.some Jvm.ClassFile.FieldType.boolean)) ∈ jWS := jWS_in 538 rfl rfl
set_option maxRecDepth 100000 in
theorem w_498 : (Jvm.Cond.methodLink "java/lang/StringLatin1" (92 : Nat) ({ cls := "java/lang/Math", name := "max", desc := "(II)I" } : Jvm.MethodName)) ∈ jWS := jWS_in 539 rfl rfl
set_option maxRecDepth 100000 in
theorem w_499 : (Jvm.Cond.methodLink "java/lang/StringLatin1" (38 : Nat) ({ cls := "java/lang/Math", name := "min", desc := "(II)I" } : Jvm.MethodName)) ∈ jWS := jWS_in 540 rfl rfl
set_option maxRecDepth 100000 in
theorem w_500 : (Jvm.Cond.methodLink "java/lang/StringLatin1" (95 : Nat) ({ cls := "java/lang/StringLatin1", name := "indexOfChar", desc := "([BIII)I" } : Jvm.MethodName)) ∈ jWS := jWS_in 541 rfl rfl
set_option maxRecDepth 100000 in
theorem w_501 : (Jvm.Cond.static ({ cls := "java/lang/StringLatin1", name := "indexOfChar", desc := "([BIII)I" } : Jvm.MethodName)) ∈ jWS := jWS_in 542 rfl rfl
set_option maxRecDepth 100000 in
theorem w_502 : (Jvm.Cond.code ({ cls := "java/lang/StringLatin1", name := "indexOfChar", desc := "([BIII)I" } : Jvm.MethodName) prog_18_method_23_code (6 : Nat) (Option.some Jvm.ClassFile.FieldType.int)) ∈ jWS := jWS_in 543 rfl rfl
set_option maxRecDepth 100000 in
theorem w_503 : (Jvm.Cond.methodLink "java/lang/String" (640 : Nat) ({ cls := "java/lang/StringUTF16", name := "indexOf", desc := "([BIII)I" } : Jvm.MethodName)) ∈ jWS := jWS_in 544 rfl rfl
set_option maxRecDepth 100000 in
theorem w_504 : (Jvm.Cond.static ({ cls := "java/lang/StringUTF16", name := "indexOf", desc := "([BIII)I" } : Jvm.MethodName)) ∈ jWS := jWS_in 545 rfl rfl
set_option maxRecDepth 100000 in
theorem w_505 : (Jvm.Cond.code ({ cls := "java/lang/StringUTF16", name := "indexOf", desc := "([BIII)I" } : Jvm.MethodName) prog_19_method_40_code (4 : Nat) (Option.some Jvm.ClassFile.FieldType.int)) ∈ jWS := jWS_in 546 rfl rfl
set_option maxRecDepth 100000 in
theorem w_506 : (Jvm.Cond.methodLink "java/lang/StringUTF16" (224 : Nat) ({ cls := "java/lang/Math", name := "max", desc := "(II)I" } : Jvm.MethodName)) ∈ jWS := jWS_in 547 rfl rfl
set_option maxRecDepth 100000 in
theorem w_507 : (Jvm.Cond.methodLink "java/lang/StringUTF16" (183 : Nat) ({ cls := "java/lang/Math", name := "min", desc := "(II)I" } : Jvm.MethodName)) ∈ jWS := jWS_in 548 rfl rfl
set_option maxRecDepth 100000 in
theorem w_508 : (Jvm.Cond.constant "java/lang/StringUTF16" (227 : Nat) (65536 : Int32)) ∈ jWS := jWS_in 549 rfl rfl
set_option maxRecDepth 100000 in
theorem w_509 : (Jvm.Cond.methodLink "java/lang/StringUTF16" (228 : Nat) ({ cls := "java/lang/StringUTF16", name := "indexOfChar", desc := "([BIII)I" } : Jvm.MethodName)) ∈ jWS := jWS_in 550 rfl rfl
set_option maxRecDepth 100000 in
theorem w_510 : (Jvm.Cond.static ({ cls := "java/lang/StringUTF16", name := "indexOfChar", desc := "([BIII)I" } : Jvm.MethodName)) ∈ jWS := jWS_in 551 rfl rfl
set_option maxRecDepth 100000 in
theorem w_511 : (Jvm.Cond.code ({ cls := "java/lang/StringUTF16", name := "indexOfChar", desc := "([BIII)I" } : Jvm.MethodName) prog_19_method_47_code (4 : Nat) (Option.some Jvm.ClassFile.FieldType.int)) ∈ jWS := jWS_in 552 rfl rfl
set_option maxRecDepth 100000 in
theorem w_512 : (Jvm.Cond.methodLink "java/lang/StringUTF16" (96 : Nat) ({ cls := "java/lang/StringUTF16", name := "checkBoundsBeginEnd", desc := "(II[B)V" } : Jvm.MethodName)) ∈ jWS := jWS_in 553 rfl rfl
set_option maxRecDepth 100000 in
theorem w_513 : (Jvm.Cond.static ({ cls := "java/lang/StringUTF16", name := "checkBoundsBeginEnd", desc := "(II[B)V" } : Jvm.MethodName)) ∈ jWS := jWS_in 554 rfl rfl
set_option maxRecDepth 100000 in
theorem w_514 : (Jvm.Cond.code ({ cls := "java/lang/StringUTF16", name := "checkBoundsBeginEnd", desc := "(II[B)V" } : Jvm.MethodName) prog_19_method_93_code (3 : Nat) (Option.none : Option Jvm.ClassFile.FieldType)) ∈ jWS := jWS_in 555 rfl rfl
set_option maxRecDepth 100000 in
theorem w_515 : (Jvm.Cond.methodLink "java/lang/StringUTF16" (48 : Nat) ({ cls := "java/lang/StringUTF16", name := "length", desc := "([B)I" } : Jvm.MethodName)) ∈ jWS := jWS_in 556 rfl rfl
set_option maxRecDepth 100000 in
theorem w_516 : (Jvm.Cond.static ({ cls := "java/lang/StringUTF16", name := "length", desc := "([B)I" } : Jvm.MethodName)) ∈ jWS := jWS_in 557 rfl rfl
set_option maxRecDepth 100000 in
theorem w_517 : (Jvm.Cond.code ({ cls := "java/lang/StringUTF16", name := "length", desc := "([B)I" } : Jvm.MethodName) prog_19_method_6_code (1 : Nat) (Option.some Jvm.ClassFile.FieldType.int)) ∈ jWS := jWS_in 558 rfl rfl
set_option maxRecDepth 100000 in
theorem w_518 : (Jvm.Cond.methodLink "java/lang/StringUTF16" (241 : Nat) ({ cls := "java/lang/String", name := "checkBoundsBeginEnd", desc := "(III)V" } : Jvm.MethodName)) ∈ jWS := jWS_in 559 rfl rfl
set_option maxRecDepth 100000 in
theorem w_519 : (Jvm.Cond.static ({ cls := "java/lang/String", name := "checkBoundsBeginEnd", desc := "(III)V" } : Jvm.MethodName)) ∈ jWS := jWS_in 560 rfl rfl
set_option maxRecDepth 100000 in
theorem w_520 : (Jvm.Cond.code ({ cls := "java/lang/String", name := "checkBoundsBeginEnd", desc := "(III)V" } : Jvm.MethodName) prog_17_method_158_code (3 : Nat) (Option.none : Option Jvm.ClassFile.FieldType)) ∈ jWS := jWS_in 561 rfl rfl
set_option maxRecDepth 100000 in
theorem w_521 : (Jvm.Cond.fieldLink "java/lang/String" (1053 : Nat) "jdk/internal/util/Preconditions" "SIOOBE_FORMATTER" "Ljava/util/function/BiFunction;") ∈ jWS := jWS_in 562 rfl rfl
set_option maxRecDepth 100000 in
theorem w_523 : (Jvm.Cond.methodLink "java/lang/String" (1062 : Nat) ({ cls := "jdk/internal/util/Preconditions", name := "checkFromToIndex", desc := "(IIILjava/util/function/BiFunction;)I" } : Jvm.MethodName)) ∈ jWS := jWS_in 564 rfl rfl
set_option maxRecDepth 100000 in
theorem w_524 : (Jvm.Cond.static ({ cls := "jdk/internal/util/Preconditions", name := "checkFromToIndex", desc := "(IIILjava/util/function/BiFunction;)I" } : Jvm.MethodName)) ∈ jWS := jWS_in 565 rfl rfl
set_option maxRecDepth 100000 in
theorem w_525 : (Jvm.Cond.code ({ cls := "jdk/internal/util/Preconditions", name := "checkFromToIndex", desc := "(IIILjava/util/function/BiFunction;)I" } : Jvm.MethodName) prog_23_method_12_code (4 : Nat) (Option.some Jvm.ClassFile.FieldType.int)) ∈ jWS := jWS_in 566 rfl rfl
set_option maxRecDepth 100000 in
theorem w_526 : (Jvm.Cond.methodLink "java/lang/StringUTF16" (244 : Nat) ({ cls := "java/lang/StringUTF16", name := "indexOfCharUnsafe", desc := "([BIII)I" } : Jvm.MethodName)) ∈ jWS := jWS_in 567 rfl rfl
set_option maxRecDepth 100000 in
theorem w_527 : (Jvm.Cond.static ({ cls := "java/lang/StringUTF16", name := "indexOfCharUnsafe", desc := "([BIII)I" } : Jvm.MethodName)) ∈ jWS := jWS_in 568 rfl rfl
set_option maxRecDepth 100000 in
theorem w_528 : (Jvm.Cond.code ({ cls := "java/lang/StringUTF16", name := "indexOfCharUnsafe", desc := "([BIII)I" } : Jvm.MethodName) prog_19_method_48_code (5 : Nat) (Option.some Jvm.ClassFile.FieldType.int)) ∈ jWS := jWS_in 569 rfl rfl
set_option maxRecDepth 100000 in
theorem w_529 : (Jvm.Cond.methodLink "java/lang/StringUTF16" (71 : Nat) ({ cls := "java/lang/StringUTF16", name := "getChar", desc := "([BI)C" } : Jvm.MethodName)) ∈ jWS := jWS_in 570 rfl rfl
set_option maxRecDepth 100000 in
theorem w_530 : (Jvm.Cond.static ({ cls := "java/lang/StringUTF16", name := "getChar", desc := "([BI)C" } : Jvm.MethodName)) ∈ jWS := jWS_in 571 rfl rfl
set_option maxRecDepth 100000 in
theorem w_531 : (Jvm.Cond.code ({ cls := "java/lang/StringUTF16", name := "getChar", desc := "([BI)C" } : Jvm.MethodName) prog_19_method_5_code (2 : Nat) (Option.some Jvm.ClassFile.FieldType.char)) ∈ jWS := jWS_in 572 rfl rfl
set_option maxRecDepth 100000 in
theorem w_532 : (Jvm.Cond.fieldLink "java/lang/StringUTF16" (44 : Nat) "java/lang/StringUTF16" "$assertionsDisabled" "Z") ∈ jWS := jWS_in 573 rfl rfl
set_option maxRecDepth 100000 in
theorem w_534 : (Jvm.Cond.fieldLink "java/lang/StringUTF16" (59 : Nat) "java/lang/StringUTF16" "HI_BYTE_SHIFT" "I") ∈ jWS := jWS_in 575 rfl rfl
set_option maxRecDepth 100000 in
theorem w_536 : (Jvm.Cond.fieldLink "java/lang/StringUTF16" (63 : Nat) "java/lang/StringUTF16" "LO_BYTE_SHIFT" "I") ∈ jWS := jWS_in 577 rfl rfl
set_option maxRecDepth 100000 in
theorem w_538 : (Jvm.Cond.methodLink "java/lang/StringUTF16" (232 : Nat) ({ cls := "java/lang/StringUTF16", name := "indexOfSupplementary", desc := "([BIII)I" } : Jvm.MethodName)) ∈ jWS := jWS_in 579 rfl rfl
set_option maxRecDepth 100000 in
theorem w_539 : (Jvm.Cond.static ({ cls := "java/lang/StringUTF16", name := "indexOfSupplementary", desc := "([BIII)I" } : Jvm.MethodName)) ∈ jWS := jWS_in 580 rfl rfl
set_option maxRecDepth 100000 in
theorem w_540 : (Jvm.Cond.code ({ cls := "java/lang/StringUTF16", name := "indexOfSupplementary", desc := "([BIII)I" } : Jvm.MethodName) prog_19_method_49_code (7 : Nat) (Option.some Jvm.ClassFile.FieldType.int)) ∈ jWS := jWS_in 581 rfl rfl
set_option maxRecDepth 100000 in
theorem w_541 : (Jvm.Cond.methodLink "java/lang/StringUTF16" (164 : Nat) ({ cls := "java/lang/Character", name := "isValidCodePoint", desc := "(I)Z" } : Jvm.MethodName)) ∈ jWS := jWS_in 582 rfl rfl
set_option maxRecDepth 100000 in
theorem w_542 : (Jvm.Cond.static ({ cls := "java/lang/Character", name := "isValidCodePoint", desc := "(I)Z" } : Jvm.MethodName)) ∈ jWS := jWS_in 583 rfl rfl
set_option maxRecDepth 100000 in
theorem w_543 : (Jvm.Cond.code ({ cls := "java/lang/Character", name := "isValidCodePoint", desc := "(I)Z" } : Jvm.MethodName) prog_10_method_11_code (2 : Nat) (Option.some Jvm.ClassFile.FieldType.boolean)) ∈ jWS := jWS_in 584 rfl rfl
set_option maxRecDepth 100000 in
theorem w_544 : (Jvm.Cond.methodLink "java/lang/StringUTF16" (157 : Nat) ({ cls := "java/lang/Character", name := "highSurrogate", desc := "(I)C" } : Jvm.MethodName)) ∈ jWS := jWS_in 585 rfl rfl
set_option maxRecDepth 100000 in
theorem w_545 : (Jvm.Cond.static ({ cls := "java/lang/Character", name := "highSurrogate", desc := "(I)C" } : Jvm.MethodName)) ∈ jWS := jWS_in 586 rfl rfl
set_option maxRecDepth 100000 in
theorem w_546 : (Jvm.Cond.code ({ cls := "java/lang/Character", name := "highSurrogate", desc := "(I)C" } : Jvm.MethodName) prog_10_method_28_code (1 : Nat) (Option.some Jvm.ClassFile.FieldType.char)) ∈ jWS := jWS_in 587 rfl rfl
set_option maxRecDepth 100000 in
theorem w_547 : (Jvm.Cond.constant "java/lang/Character" (110 : Nat) (55232 : Int32)) ∈ jWS := jWS_in 588 rfl rfl
set_option maxRecDepth 100000 in
theorem w_548 : (Jvm.Cond.methodLink "java/lang/StringUTF16" (161 : Nat) ({ cls := "java/lang/Character", name := "lowSurrogate", desc := "(I)C" } : Jvm.MethodName)) ∈ jWS := jWS_in 589 rfl rfl
set_option maxRecDepth 100000 in
theorem w_549 : (Jvm.Cond.static ({ cls := "java/lang/Character", name := "lowSurrogate", desc := "(I)C" } : Jvm.MethodName)) ∈ jWS := jWS_in 590 rfl rfl
set_option maxRecDepth 100000 in
theorem w_550 : (Jvm.Cond.code ({ cls := "java/lang/Character", name := "lowSurrogate", desc := "(I)C" } : Jvm.MethodName) prog_10_method_29_code (1 : Nat) (Option.some Jvm.ClassFile.FieldType.char)) ∈ jWS := jWS_in 591 rfl rfl
set_option maxRecDepth 100000 in
theorem w_551 : (Jvm.Cond.constant "java/lang/Character" (76 : Nat) (56320 : Int32)) ∈ jWS := jWS_in 592 rfl rfl
set_option maxRecDepth 100000 in
theorem w_552 : (Jvm.Cond.methodLink "WireField" (94 : Nat) ({ cls := "WireField", name := "macrosOfLineAreThere", desc := "()Z" } : Jvm.MethodName)) ∈ jWS := jWS_in 593 rfl rfl
set_option maxRecDepth 100000 in
theorem w_554 : (Jvm.Cond.instanceMethod ({ cls := "WireField", name := "macrosOfLineAreThere", desc := "()Z" } : Jvm.MethodName)) ∈ jWS := jWS_in 595 rfl rfl
set_option maxRecDepth 100000 in
theorem w_555 : (Jvm.Cond.code ({ cls := "WireField", name := "macrosOfLineAreThere", desc := "()Z" } : Jvm.MethodName) prog_1_method_26_code (3 : Nat) (Option.some Jvm.ClassFile.FieldType.boolean)) ∈ jWS := jWS_in 596 rfl rfl
set_option maxRecDepth 100000 in
theorem w_556 : (Jvm.Cond.methodLink "WireField" (229 : Nat) ({ cls := "WireField$Text", name := "heldMacros", desc := "()I" } : Jvm.MethodName)) ∈ jWS := jWS_in 597 rfl rfl
set_option maxRecDepth 100000 in
theorem w_557 : (Jvm.Cond.instanceMethod ({ cls := "WireField$Text", name := "heldMacros", desc := "()I" } : Jvm.MethodName)) ∈ jWS := jWS_in 598 rfl rfl
set_option maxRecDepth 100000 in
theorem w_558 : (Jvm.Cond.selects "WireField$Text" ({ cls := "WireField$Text", name := "heldMacros", desc := "()I" } : Jvm.MethodName) ({ cls := "WireField$Text", name := "heldMacros", desc := "()I" } : Jvm.MethodName)) ∈ jWS := jWS_in 599 rfl rfl
set_option maxRecDepth 100000 in
theorem w_559 : (Jvm.Cond.code ({ cls := "WireField$Text", name := "heldMacros", desc := "()I" } : Jvm.MethodName) prog_7_method_11_code (4 : Nat) (Option.some Jvm.ClassFile.FieldType.int)) ∈ jWS := jWS_in 600 rfl rfl
set_option maxRecDepth 100000 in
theorem w_560 : (Jvm.Cond.classLink "WireField" (98 : Nat) "java/lang/IllegalArgumentException") ∈ jWS := jWS_in 601 rfl rfl
set_option maxRecDepth 100000 in
theorem w_561 : (Jvm.Cond.instantiable "java/lang/IllegalArgumentException" (6 : Nat)) ∈ jWS := jWS_in 602 rfl rfl
set_option maxRecDepth 100000 in
theorem w_563 : (Jvm.Cond.selects "java/lang/IllegalArgumentException" ({ cls := "java/lang/Throwable", name := "fillInStackTrace", desc := "(I)Ljava/lang/Throwable;" } : Jvm.MethodName) ({ cls := "java/lang/Throwable", name := "fillInStackTrace", desc := "(I)Ljava/lang/Throwable;" } : Jvm.MethodName)) ∈ jWS := jWS_in 604 rfl rfl
set_option maxRecDepth 100000 in
theorem w_564 : (Jvm.Cond.lays "java/lang/IllegalArgumentException" "java/lang/Throwable" "cause" "Ljava/lang/Throwable;") ∈ jWS := jWS_in 605 rfl rfl
set_option maxRecDepth 100000 in
theorem w_565 : (Jvm.Cond.lays "java/lang/IllegalArgumentException" "java/lang/Throwable" "stackTrace" "[Ljava/lang/StackTraceElement;") ∈ jWS := jWS_in 606 rfl rfl
set_option maxRecDepth 100000 in
theorem w_566 : (Jvm.Cond.lays "java/lang/IllegalArgumentException" "java/lang/Throwable" "suppressedExceptions" "Ljava/util/List;") ∈ jWS := jWS_in 607 rfl rfl
set_option maxRecDepth 100000 in
theorem w_567 : (Jvm.Cond.lays "java/lang/IllegalArgumentException" "java/lang/Throwable" "detailMessage" "Ljava/lang/String;") ∈ jWS := jWS_in 608 rfl rfl
set_option maxRecDepth 100000 in
theorem w_568 : (Jvm.Cond.lays "java/lang/IllegalArgumentException" "java/lang/Throwable" "backtrace" "Ljava/lang/Object;") ∈ jWS := jWS_in 609 rfl rfl
set_option maxRecDepth 100000 in
theorem w_570 : (Jvm.Cond.methodLink "WireField" (102 : Nat) ({ cls := "java/lang/IllegalArgumentException", name := "<init>", desc := "(Ljava/lang/String;)V" } : Jvm.MethodName)) ∈ jWS := jWS_in 611 rfl rfl
set_option maxRecDepth 100000 in
theorem w_571 : (Jvm.Cond.instanceMethod ({ cls := "java/lang/IllegalArgumentException", name := "<init>", desc := "(Ljava/lang/String;)V" } : Jvm.MethodName)) ∈ jWS := jWS_in 612 rfl rfl
set_option maxRecDepth 100000 in
theorem w_572 : (Jvm.Cond.code ({ cls := "java/lang/IllegalArgumentException", name := "<init>", desc := "(Ljava/lang/String;)V" } : Jvm.MethodName) prog_12_method_2_code (2 : Nat) (Option.none : Option Jvm.ClassFile.FieldType)) ∈ jWS := jWS_in 613 rfl rfl
set_option maxRecDepth 100000 in
theorem w_573 : (Jvm.Cond.methodLink "java/lang/IllegalArgumentException" (7 : Nat) ({ cls := "java/lang/RuntimeException", name := "<init>", desc := "(Ljava/lang/String;)V" } : Jvm.MethodName)) ∈ jWS := jWS_in 614 rfl rfl
set_option maxRecDepth 100000 in
theorem w_574 : (Jvm.Cond.lays "java/lang/IllegalArgumentException" "java/lang/Throwable" "depth" "I") ∈ jWS := jWS_in 615 rfl rfl
set_option maxRecDepth 100000 in
theorem w_576 : (Jvm.Cond.methodLink "WireField" (103 : Nat) ({ cls := "WireField$Pen", name := "begin", desc := "(LWireField$Grid;III)V" } : Jvm.MethodName)) ∈ jWS := jWS_in 617 rfl rfl
set_option maxRecDepth 100000 in
theorem w_577 : (Jvm.Cond.instanceMethod ({ cls := "WireField$Pen", name := "begin", desc := "(LWireField$Grid;III)V" } : Jvm.MethodName)) ∈ jWS := jWS_in 618 rfl rfl
set_option maxRecDepth 100000 in
theorem w_578 : (Jvm.Cond.selects "WireField$Pen" ({ cls := "WireField$Pen", name := "begin", desc := "(LWireField$Grid;III)V" } : Jvm.MethodName) ({ cls := "WireField$Pen", name := "begin", desc := "(LWireField$Grid;III)V" } : Jvm.MethodName)) ∈ jWS := jWS_in 619 rfl rfl
set_option maxRecDepth 100000 in
theorem w_579 : (Jvm.Cond.code ({ cls := "WireField$Pen", name := "begin", desc := "(LWireField$Grid;III)V" } : Jvm.MethodName) prog_4_method_2_code (5 : Nat) (Option.none : Option Jvm.ClassFile.FieldType)) ∈ jWS := jWS_in 620 rfl rfl
set_option maxRecDepth 100000 in
theorem w_580 : (Jvm.Cond.methodLink "WireField$Pen" (35 : Nat) ({ cls := "WireField$Grid", name := "takeFrom", desc := "(LWireField$Grid;)V" } : Jvm.MethodName)) ∈ jWS := jWS_in 621 rfl rfl
set_option maxRecDepth 100000 in
theorem w_581 : (Jvm.Cond.methodLink "WireField" (110 : Nat) ({ cls := "WireField", name := "perform", desc := "(LWireField$Text;III)Z" } : Jvm.MethodName)) ∈ jWS := jWS_in 622 rfl rfl
set_option maxRecDepth 100000 in
theorem w_583 : (Jvm.Cond.instanceMethod ({ cls := "WireField", name := "perform", desc := "(LWireField$Text;III)Z" } : Jvm.MethodName)) ∈ jWS := jWS_in 624 rfl rfl
set_option maxRecDepth 100000 in
theorem w_584 : (Jvm.Cond.code ({ cls := "WireField", name := "perform", desc := "(LWireField$Text;III)Z" } : Jvm.MethodName) prog_1_method_27_code (11 : Nat) (Option.some Jvm.ClassFile.FieldType.boolean)) ∈ jWS := jWS_in 625 rfl rfl
set_option maxRecDepth 100000 in
theorem w_585 : (Jvm.Cond.methodLink "WireField" (233 : Nat) ({ cls := "WireField$Text", name := "timesAt", desc := "(I)I" } : Jvm.MethodName)) ∈ jWS := jWS_in 626 rfl rfl
set_option maxRecDepth 100000 in
theorem w_586 : (Jvm.Cond.instanceMethod ({ cls := "WireField$Text", name := "timesAt", desc := "(I)I" } : Jvm.MethodName)) ∈ jWS := jWS_in 627 rfl rfl
set_option maxRecDepth 100000 in
theorem w_587 : (Jvm.Cond.selects "WireField$Text" ({ cls := "WireField$Text", name := "timesAt", desc := "(I)I" } : Jvm.MethodName) ({ cls := "WireField$Text", name := "timesAt", desc := "(I)I" } : Jvm.MethodName)) ∈ jWS := jWS_in 628 rfl rfl
set_option maxRecDepth 100000 in
theorem w_588 : (Jvm.Cond.code ({ cls := "WireField$Text", name := "timesAt", desc := "(I)I" } : Jvm.MethodName) prog_7_method_7_code (2 : Nat) (Option.some Jvm.ClassFile.FieldType.int)) ∈ jWS := jWS_in 629 rfl rfl
set_option maxRecDepth 100000 in
theorem w_589 : (Jvm.Cond.methodLink "WireField" (236 : Nat) ({ cls := "WireField$Text", name := "digitsAt", desc := "(I)I" } : Jvm.MethodName)) ∈ jWS := jWS_in 630 rfl rfl
set_option maxRecDepth 100000 in
theorem w_590 : (Jvm.Cond.methodLink "WireField" (239 : Nat) ({ cls := "WireField$Text", name := "behindOrder", desc := "(I)I" } : Jvm.MethodName)) ∈ jWS := jWS_in 631 rfl rfl
set_option maxRecDepth 100000 in
theorem w_591 : (Jvm.Cond.instanceMethod ({ cls := "WireField$Text", name := "behindOrder", desc := "(I)I" } : Jvm.MethodName)) ∈ jWS := jWS_in 632 rfl rfl
set_option maxRecDepth 100000 in
theorem w_592 : (Jvm.Cond.selects "WireField$Text" ({ cls := "WireField$Text", name := "behindOrder", desc := "(I)I" } : Jvm.MethodName) ({ cls := "WireField$Text", name := "behindOrder", desc := "(I)I" } : Jvm.MethodName)) ∈ jWS := jWS_in 633 rfl rfl
set_option maxRecDepth 100000 in
theorem w_593 : (Jvm.Cond.code ({ cls := "WireField$Text", name := "behindOrder", desc := "(I)I" } : Jvm.MethodName) prog_7_method_10_code (2 : Nat) (Option.some Jvm.ClassFile.FieldType.int)) ∈ jWS := jWS_in 634 rfl rfl
set_option maxRecDepth 100000 in
theorem w_594 : (Jvm.Cond.methodLink "WireField" (242 : Nat) ({ cls := "WireField", name := "performOrder", desc := "(LWireField$Text;III)Z" } : Jvm.MethodName)) ∈ jWS := jWS_in 635 rfl rfl
set_option maxRecDepth 100000 in
theorem w_596 : (Jvm.Cond.instanceMethod ({ cls := "WireField", name := "performOrder", desc := "(LWireField$Text;III)Z" } : Jvm.MethodName)) ∈ jWS := jWS_in 637 rfl rfl
set_option maxRecDepth 100000 in
theorem w_597 : (Jvm.Cond.code ({ cls := "WireField", name := "performOrder", desc := "(LWireField$Text;III)Z" } : Jvm.MethodName) prog_1_method_28_code (5 : Nat) (Option.some Jvm.ClassFile.FieldType.boolean)) ∈ jWS := jWS_in 638 rfl rfl
set_option maxRecDepth 100000 in
theorem w_598 : (Jvm.Cond.methodLink "WireField" (245 : Nat) ({ cls := "WireField$Pen", name := "countOrder", desc := "()Z" } : Jvm.MethodName)) ∈ jWS := jWS_in 639 rfl rfl
set_option maxRecDepth 100000 in
theorem w_599 : (Jvm.Cond.instanceMethod ({ cls := "WireField$Pen", name := "countOrder", desc := "()Z" } : Jvm.MethodName)) ∈ jWS := jWS_in 640 rfl rfl
set_option maxRecDepth 100000 in
theorem w_600 : (Jvm.Cond.selects "WireField$Pen" ({ cls := "WireField$Pen", name := "countOrder", desc := "()Z" } : Jvm.MethodName) ({ cls := "WireField$Pen", name := "countOrder", desc := "()Z" } : Jvm.MethodName)) ∈ jWS := jWS_in 641 rfl rfl
set_option maxRecDepth 100000 in
theorem w_601 : (Jvm.Cond.code ({ cls := "WireField$Pen", name := "countOrder", desc := "()Z" } : Jvm.MethodName) prog_4_method_3_code (1 : Nat) (Option.some Jvm.ClassFile.FieldType.boolean)) ∈ jWS := jWS_in 642 rfl rfl
set_option maxRecDepth 100000 in
theorem w_602 : (Jvm.Cond.methodLink "WireField" (248 : Nat) ({ cls := "WireField$Text", name := "signAt", desc := "(I)C" } : Jvm.MethodName)) ∈ jWS := jWS_in 643 rfl rfl
set_option maxRecDepth 100000 in
theorem w_603 : (Jvm.Cond.methodLink "WireField" (252 : Nat) ({ cls := "WireField", name := "performBranch", desc := "(LWireField$Text;III)Z" } : Jvm.MethodName)) ∈ jWS := jWS_in 644 rfl rfl
set_option maxRecDepth 100000 in
theorem w_605 : (Jvm.Cond.instanceMethod ({ cls := "WireField", name := "performBranch", desc := "(LWireField$Text;III)Z" } : Jvm.MethodName)) ∈ jWS := jWS_in 646 rfl rfl
set_option maxRecDepth 100000 in
theorem w_606 : (Jvm.Cond.code ({ cls := "WireField", name := "performBranch", desc := "(LWireField$Text;III)Z" } : Jvm.MethodName) prog_1_method_29_code (10 : Nat) (Option.some Jvm.ClassFile.FieldType.boolean)) ∈ jWS := jWS_in 647 rfl rfl
set_option maxRecDepth 100000 in
theorem w_607 : (Jvm.Cond.methodLink "WireField" (255 : Nat) ({ cls := "WireField", name := "performMacro", desc := "(II)Z" } : Jvm.MethodName)) ∈ jWS := jWS_in 648 rfl rfl
set_option maxRecDepth 100000 in
theorem w_609 : (Jvm.Cond.instanceMethod ({ cls := "WireField", name := "performMacro", desc := "(II)Z" } : Jvm.MethodName)) ∈ jWS := jWS_in 650 rfl rfl
set_option maxRecDepth 100000 in
theorem w_610 : (Jvm.Cond.code ({ cls := "WireField", name := "performMacro", desc := "(II)Z" } : Jvm.MethodName) prog_1_method_30_code (3 : Nat) (Option.some Jvm.ClassFile.FieldType.boolean)) ∈ jWS := jWS_in 651 rfl rfl
set_option maxRecDepth 100000 in
theorem w_611 : (Jvm.Cond.methodLink "WireField" (258 : Nat) ({ cls := "WireField$Pen", name := "obey", desc := "(C)Z" } : Jvm.MethodName)) ∈ jWS := jWS_in 652 rfl rfl
set_option maxRecDepth 100000 in
theorem w_612 : (Jvm.Cond.instanceMethod ({ cls := "WireField$Pen", name := "obey", desc := "(C)Z" } : Jvm.MethodName)) ∈ jWS := jWS_in 653 rfl rfl
set_option maxRecDepth 100000 in
theorem w_613 : (Jvm.Cond.selects "WireField$Pen" ({ cls := "WireField$Pen", name := "obey", desc := "(C)Z" } : Jvm.MethodName) ({ cls := "WireField$Pen", name := "obey", desc := "(C)Z" } : Jvm.MethodName)) ∈ jWS := jWS_in 654 rfl rfl
set_option maxRecDepth 100000 in
theorem w_614 : (Jvm.Cond.code ({ cls := "WireField$Pen", name := "obey", desc := "(C)Z" } : Jvm.MethodName) prog_4_method_4_code (2 : Nat) (Option.some Jvm.ClassFile.FieldType.boolean)) ∈ jWS := jWS_in 655 rfl rfl
set_option maxRecDepth 100000 in
theorem w_615 : (Jvm.Cond.methodLink "WireField$Pen" (39 : Nat) ({ cls := "WireField$Pen", name := "drawForward", desc := "()Z" } : Jvm.MethodName)) ∈ jWS := jWS_in 656 rfl rfl
set_option maxRecDepth 100000 in
theorem w_617 : (Jvm.Cond.instanceMethod ({ cls := "WireField$Pen", name := "drawForward", desc := "()Z" } : Jvm.MethodName)) ∈ jWS := jWS_in 658 rfl rfl
set_option maxRecDepth 100000 in
theorem w_618 : (Jvm.Cond.code ({ cls := "WireField$Pen", name := "drawForward", desc := "()Z" } : Jvm.MethodName) prog_4_method_10_code (1 : Nat) (Option.some Jvm.ClassFile.FieldType.boolean)) ∈ jWS := jWS_in 659 rfl rfl
set_option maxRecDepth 100000 in
theorem w_619 : (Jvm.Cond.methodLink "WireField$Pen" (43 : Nat) ({ cls := "WireField$Pen", name := "move", desc := "(I)Z" } : Jvm.MethodName)) ∈ jWS := jWS_in 660 rfl rfl
set_option maxRecDepth 100000 in
theorem w_621 : (Jvm.Cond.instanceMethod ({ cls := "WireField$Pen", name := "move", desc := "(I)Z" } : Jvm.MethodName)) ∈ jWS := jWS_in 662 rfl rfl
set_option maxRecDepth 100000 in
theorem w_622 : (Jvm.Cond.code ({ cls := "WireField$Pen", name := "move", desc := "(I)Z" } : Jvm.MethodName) prog_4_method_9_code (4 : Nat) (Option.some Jvm.ClassFile.FieldType.boolean)) ∈ jWS := jWS_in 663 rfl rfl
set_option maxRecDepth 100000 in
theorem w_623 : (Jvm.Cond.methodLink "WireField$Pen" (64 : Nat) ({ cls := "WireField$Pen", name := "columnAt", desc := "(II)I" } : Jvm.MethodName)) ∈ jWS := jWS_in 664 rfl rfl
set_option maxRecDepth 100000 in
theorem w_625 : (Jvm.Cond.instanceMethod ({ cls := "WireField$Pen", name := "columnAt", desc := "(II)I" } : Jvm.MethodName)) ∈ jWS := jWS_in 666 rfl rfl
set_option maxRecDepth 100000 in
theorem w_626 : (Jvm.Cond.code ({ cls := "WireField$Pen", name := "columnAt", desc := "(II)I" } : Jvm.MethodName) prog_4_method_5_code (3 : Nat) (Option.some Jvm.ClassFile.FieldType.int)) ∈ jWS := jWS_in 667 rfl rfl
set_option maxRecDepth 100000 in
theorem w_627 : (Jvm.Cond.fieldLinkNest "WireField$Pen" (57 : Nat) "WireField" "COLUMN_STEPS" "[I" "WireField") ∈ jNW := jNW_in 668 rfl rfl
set_option maxRecDepth 100000 in
theorem w_629 : (Jvm.Cond.methodLink "WireField$Pen" (68 : Nat) ({ cls := "WireField$Pen", name := "rowAt", desc := "(II)I" } : Jvm.MethodName)) ∈ jWS := jWS_in 670 rfl rfl
set_option maxRecDepth 100000 in
theorem w_631 : (Jvm.Cond.instanceMethod ({ cls := "WireField$Pen", name := "rowAt", desc := "(II)I" } : Jvm.MethodName)) ∈ jWS := jWS_in 672 rfl rfl
set_option maxRecDepth 100000 in
theorem w_632 : (Jvm.Cond.code ({ cls := "WireField$Pen", name := "rowAt", desc := "(II)I" } : Jvm.MethodName) prog_4_method_6_code (3 : Nat) (Option.some Jvm.ClassFile.FieldType.int)) ∈ jWS := jWS_in 673 rfl rfl
set_option maxRecDepth 100000 in
theorem w_633 : (Jvm.Cond.fieldLinkNest "WireField$Pen" (61 : Nat) "WireField" "ROW_STEPS" "[I" "WireField") ∈ jNW := jNW_in 674 rfl rfl
set_option maxRecDepth 100000 in
theorem w_635 : (Jvm.Cond.methodLinkNest "WireField$Pen" (71 : Nat) ({ cls := "WireField", name := "isWithin", desc := "(II)Z" } : Jvm.MethodName) "WireField") ∈ jNW := jNW_in 676 rfl rfl
set_option maxRecDepth 100000 in
theorem w_636 : (Jvm.Cond.methodLink "WireField$Pen" (75 : Nat) ({ cls := "WireField$Pen", name := "mark", desc := "(II)V" } : Jvm.MethodName)) ∈ jWS := jWS_in 677 rfl rfl
set_option maxRecDepth 100000 in
theorem w_638 : (Jvm.Cond.instanceMethod ({ cls := "WireField$Pen", name := "mark", desc := "(II)V" } : Jvm.MethodName)) ∈ jWS := jWS_in 679 rfl rfl
set_option maxRecDepth 100000 in
theorem w_639 : (Jvm.Cond.code ({ cls := "WireField$Pen", name := "mark", desc := "(II)V" } : Jvm.MethodName) prog_4_method_8_code (3 : Nat) (Option.none : Option Jvm.ClassFile.FieldType)) ∈ jWS := jWS_in 680 rfl rfl
set_option maxRecDepth 100000 in
theorem w_640 : (Jvm.Cond.methodLink "WireField$Pen" (50 : Nat) ({ cls := "WireField$Grid", name := "put", desc := "(III)V" } : Jvm.MethodName)) ∈ jWS := jWS_in 681 rfl rfl
set_option maxRecDepth 100000 in
theorem w_641 : (Jvm.Cond.methodLink "WireField$Pen" (47 : Nat) ({ cls := "WireField$Pen", name := "putElectron", desc := "()V" } : Jvm.MethodName)) ∈ jWS := jWS_in 682 rfl rfl
set_option maxRecDepth 100000 in
theorem w_643 : (Jvm.Cond.instanceMethod ({ cls := "WireField$Pen", name := "putElectron", desc := "()V" } : Jvm.MethodName)) ∈ jWS := jWS_in 684 rfl rfl
set_option maxRecDepth 100000 in
theorem w_644 : (Jvm.Cond.code ({ cls := "WireField$Pen", name := "putElectron", desc := "()V" } : Jvm.MethodName) prog_4_method_11_code (3 : Nat) (Option.none : Option Jvm.ClassFile.FieldType)) ∈ jWS := jWS_in 685 rfl rfl
set_option maxRecDepth 100000 in
theorem w_645 : (Jvm.Cond.methodLink "WireField$Pen" (79 : Nat) ({ cls := "WireField$Grid", name := "valueAt", desc := "(II)I" } : Jvm.MethodName)) ∈ jWS := jWS_in 686 rfl rfl
set_option maxRecDepth 100000 in
theorem w_646 : (Jvm.Cond.methodLink "WireField$Pen" (54 : Nat) ({ cls := "WireField$Pen", name := "drawDiode", desc := "()Z" } : Jvm.MethodName)) ∈ jWS := jWS_in 687 rfl rfl
set_option maxRecDepth 100000 in
theorem w_648 : (Jvm.Cond.instanceMethod ({ cls := "WireField$Pen", name := "drawDiode", desc := "()Z" } : Jvm.MethodName)) ∈ jWS := jWS_in 689 rfl rfl
set_option maxRecDepth 100000 in
theorem w_649 : (Jvm.Cond.code ({ cls := "WireField$Pen", name := "drawDiode", desc := "()Z" } : Jvm.MethodName) prog_4_method_12_code (1 : Nat) (Option.some Jvm.ClassFile.FieldType.boolean)) ∈ jWS := jWS_in 690 rfl rfl
set_option maxRecDepth 100000 in
theorem w_650 : (Jvm.Cond.methodLink "WireField$Pen" (82 : Nat) ({ cls := "WireField$Pen", name := "hasCell", desc := "(II)Z" } : Jvm.MethodName)) ∈ jWS := jWS_in 691 rfl rfl
set_option maxRecDepth 100000 in
theorem w_652 : (Jvm.Cond.instanceMethod ({ cls := "WireField$Pen", name := "hasCell", desc := "(II)Z" } : Jvm.MethodName)) ∈ jWS := jWS_in 693 rfl rfl
set_option maxRecDepth 100000 in
theorem w_653 : (Jvm.Cond.code ({ cls := "WireField$Pen", name := "hasCell", desc := "(II)Z" } : Jvm.MethodName) prog_4_method_7_code (3 : Nat) (Option.some Jvm.ClassFile.FieldType.boolean)) ∈ jWS := jWS_in 694 rfl rfl
set_option maxRecDepth 100000 in
theorem w_654 : (Jvm.Cond.classLink "WireField" (114 : Nat) "java/lang/UnsupportedOperationException") ∈ jWS := jWS_in 695 rfl rfl
set_option maxRecDepth 100000 in
theorem w_655 : (Jvm.Cond.instantiable "java/lang/UnsupportedOperationException" (6 : Nat)) ∈ jWS := jWS_in 696 rfl rfl
set_option maxRecDepth 100000 in
theorem w_657 : (Jvm.Cond.selects "java/lang/UnsupportedOperationException" ({ cls := "java/lang/Throwable", name := "fillInStackTrace", desc := "(I)Ljava/lang/Throwable;" } : Jvm.MethodName) ({ cls := "java/lang/Throwable", name := "fillInStackTrace", desc := "(I)Ljava/lang/Throwable;" } : Jvm.MethodName)) ∈ jWS := jWS_in 698 rfl rfl
set_option maxRecDepth 100000 in
theorem w_658 : (Jvm.Cond.lays "java/lang/UnsupportedOperationException" "java/lang/Throwable" "cause" "Ljava/lang/Throwable;") ∈ jWS := jWS_in 699 rfl rfl
set_option maxRecDepth 100000 in
theorem w_659 : (Jvm.Cond.lays "java/lang/UnsupportedOperationException" "java/lang/Throwable" "stackTrace" "[Ljava/lang/StackTraceElement;") ∈ jWS := jWS_in 700 rfl rfl
set_option maxRecDepth 100000 in
theorem w_660 : (Jvm.Cond.lays "java/lang/UnsupportedOperationException" "java/lang/Throwable" "suppressedExceptions" "Ljava/util/List;") ∈ jWS := jWS_in 701 rfl rfl
set_option maxRecDepth 100000 in
theorem w_661 : (Jvm.Cond.lays "java/lang/UnsupportedOperationException" "java/lang/Throwable" "detailMessage" "Ljava/lang/String;") ∈ jWS := jWS_in 702 rfl rfl
set_option maxRecDepth 100000 in
theorem w_662 : (Jvm.Cond.lays "java/lang/UnsupportedOperationException" "java/lang/Throwable" "backtrace" "Ljava/lang/Object;") ∈ jWS := jWS_in 703 rfl rfl
set_option maxRecDepth 100000 in
theorem w_664 : (Jvm.Cond.methodLink "WireField" (118 : Nat) ({ cls := "java/lang/UnsupportedOperationException", name := "<init>", desc := "(Ljava/lang/String;)V" } : Jvm.MethodName)) ∈ jWS := jWS_in 705 rfl rfl
set_option maxRecDepth 100000 in
theorem w_665 : (Jvm.Cond.instanceMethod ({ cls := "java/lang/UnsupportedOperationException", name := "<init>", desc := "(Ljava/lang/String;)V" } : Jvm.MethodName)) ∈ jWS := jWS_in 706 rfl rfl
set_option maxRecDepth 100000 in
theorem w_666 : (Jvm.Cond.code ({ cls := "java/lang/UnsupportedOperationException", name := "<init>", desc := "(Ljava/lang/String;)V" } : Jvm.MethodName) prog_22_method_2_code (2 : Nat) (Option.none : Option Jvm.ClassFile.FieldType)) ∈ jWS := jWS_in 707 rfl rfl
set_option maxRecDepth 100000 in
theorem w_667 : (Jvm.Cond.methodLink "java/lang/UnsupportedOperationException" (7 : Nat) ({ cls := "java/lang/RuntimeException", name := "<init>", desc := "(Ljava/lang/String;)V" } : Jvm.MethodName)) ∈ jWS := jWS_in 708 rfl rfl
set_option maxRecDepth 100000 in
theorem w_668 : (Jvm.Cond.lays "java/lang/UnsupportedOperationException" "java/lang/Throwable" "depth" "I") ∈ jWS := jWS_in 709 rfl rfl
set_option maxRecDepth 100000 in
theorem w_670 : (Jvm.Cond.methodLink "WireFieldLaw" (46 : Nat) ({ cls := "WireFieldLaw", name := "macro", desc := "(LWireField;I)I" } : Jvm.MethodName)) ∈ jWS := jWS_in 711 rfl rfl
set_option maxRecDepth 100000 in
theorem w_671 : (Jvm.Cond.static ({ cls := "WireFieldLaw", name := "macro", desc := "(LWireField;I)I" } : Jvm.MethodName)) ∈ jWS := jWS_in 712 rfl rfl
set_option maxRecDepth 100000 in
theorem w_673 : (Jvm.Cond.methodLink "WireFieldLaw" (19 : Nat) ({ cls := "WireField", name := "macro", desc := "(I)V" } : Jvm.MethodName)) ∈ jWS := jWS_in 714 rfl rfl
set_option maxRecDepth 100000 in
theorem w_674 : (Jvm.Cond.instanceMethod ({ cls := "WireField", name := "macro", desc := "(I)V" } : Jvm.MethodName)) ∈ jWS := jWS_in 715 rfl rfl
set_option maxRecDepth 100000 in
theorem w_675 : (Jvm.Cond.selects "WireField" ({ cls := "WireField", name := "macro", desc := "(I)V" } : Jvm.MethodName) ({ cls := "WireField", name := "macro", desc := "(I)V" } : Jvm.MethodName)) ∈ jWS := jWS_in 716 rfl rfl
set_option maxRecDepth 100000 in
theorem w_676 : (Jvm.Cond.code ({ cls := "WireField", name := "macro", desc := "(I)V" } : Jvm.MethodName) prog_1_method_4_code (2 : Nat) (Option.none : Option Jvm.ClassFile.FieldType)) ∈ jWS := jWS_in 717 rfl rfl
set_option maxRecDepth 100000 in
theorem w_679 : (Jvm.Cond.methodLink "WireField" (139 : Nat) ({ cls := "WireField$Text", name := "takeFrom", desc := "(LWireField$Text;)V" } : Jvm.MethodName)) ∈ jWS := jWS_in 720 rfl rfl
set_option maxRecDepth 100000 in
theorem w_680 : (Jvm.Cond.instanceMethod ({ cls := "WireField$Text", name := "takeFrom", desc := "(LWireField$Text;)V" } : Jvm.MethodName)) ∈ jWS := jWS_in 721 rfl rfl
set_option maxRecDepth 100000 in
theorem w_681 : (Jvm.Cond.selects "WireField$Text" ({ cls := "WireField$Text", name := "takeFrom", desc := "(LWireField$Text;)V" } : Jvm.MethodName) ({ cls := "WireField$Text", name := "takeFrom", desc := "(LWireField$Text;)V" } : Jvm.MethodName)) ∈ jWS := jWS_in 722 rfl rfl
set_option maxRecDepth 100000 in
theorem w_682 : (Jvm.Cond.code ({ cls := "WireField$Text", name := "takeFrom", desc := "(LWireField$Text;)V" } : Jvm.MethodName) prog_7_method_4_code (2 : Nat) (Option.none : Option Jvm.ClassFile.FieldType)) ∈ jWS := jWS_in 723 rfl rfl
set_option maxRecDepth 100000 in
theorem w_683 : (Jvm.Cond.methodLink "WireField$Text" (19 : Nat) ({ cls := "java/lang/System", name := "arraycopy", desc := "(Ljava/lang/Object;ILjava/lang/Object;II)V" } : Jvm.MethodName)) ∈ jWS := jWS_in 724 rfl rfl
set_option maxRecDepth 100000 in
theorem w_684 : (Jvm.Cond.methodLink "WireFieldLaw" (93 : Nat) ({ cls := "WireFieldLaw", name := "seen", desc := "(LWireField;II[J)I" } : Jvm.MethodName)) ∈ jWS := jWS_in 725 rfl rfl
set_option maxRecDepth 100000 in
theorem w_685 : (Jvm.Cond.static ({ cls := "WireFieldLaw", name := "seen", desc := "(LWireField;II[J)I" } : Jvm.MethodName)) ∈ jWS := jWS_in 726 rfl rfl
set_option maxRecDepth 100000 in
theorem w_687 : (Jvm.Cond.methodLink "WireFieldLaw" (23 : Nat) ({ cls := "WireField", name := "seen", desc := "(II)I" } : Jvm.MethodName)) ∈ jWS := jWS_in 728 rfl rfl
set_option maxRecDepth 100000 in
theorem w_688 : (Jvm.Cond.instanceMethod ({ cls := "WireField", name := "seen", desc := "(II)I" } : Jvm.MethodName)) ∈ jWS := jWS_in 729 rfl rfl
set_option maxRecDepth 100000 in
theorem w_689 : (Jvm.Cond.selects "WireField" ({ cls := "WireField", name := "seen", desc := "(II)I" } : Jvm.MethodName) ({ cls := "WireField", name := "seen", desc := "(II)I" } : Jvm.MethodName)) ∈ jWS := jWS_in 730 rfl rfl
set_option maxRecDepth 100000 in
theorem w_690 : (Jvm.Cond.code ({ cls := "WireField", name := "seen", desc := "(II)I" } : Jvm.MethodName) prog_1_method_14_code (3 : Nat) (Option.some Jvm.ClassFile.FieldType.int)) ∈ jWS := jWS_in 731 rfl rfl
set_option maxRecDepth 100000 in
theorem w_692 : (Jvm.Cond.classLink "WireFieldLaw" (28 : Nat) "WireFieldModel") ∈ jWS := jWS_in 733 rfl rfl
set_option maxRecDepth 100000 in
theorem w_693 : (Jvm.Cond.instantiable "WireFieldModel" (43 : Nat)) ∈ jWS := jWS_in 734 rfl rfl
set_option maxRecDepth 100000 in
theorem w_694 : (Jvm.Cond.methodLink "WireFieldLaw" (30 : Nat) ({ cls := "WireFieldModel", name := "<init>", desc := "()V" } : Jvm.MethodName)) ∈ jWS := jWS_in 735 rfl rfl
set_option maxRecDepth 100000 in
theorem w_695 : (Jvm.Cond.instanceMethod ({ cls := "WireFieldModel", name := "<init>", desc := "()V" } : Jvm.MethodName)) ∈ jWS := jWS_in 736 rfl rfl
set_option maxRecDepth 100000 in
theorem w_696 : (Jvm.Cond.code ({ cls := "WireFieldModel", name := "<init>", desc := "()V" } : Jvm.MethodName) prog_9_method_1_code (2 : Nat) (Option.none : Option Jvm.ClassFile.FieldType)) ∈ jWS := jWS_in 737 rfl rfl
set_option maxRecDepth 100000 in
theorem w_697 : (Jvm.Cond.methodLink "WireFieldModel" (1 : Nat) ({ cls := "java/lang/Object", name := "<init>", desc := "()V" } : Jvm.MethodName)) ∈ jWS := jWS_in 738 rfl rfl
set_option maxRecDepth 100000 in
theorem w_698 : (Jvm.Cond.fieldLink "WireFieldModel" (102 : Nat) "WireFieldModel" "thrown" "I") ∈ jWS := jWS_in 739 rfl rfl
set_option maxRecDepth 100000 in
theorem w_699 : (Jvm.Cond.fieldLink "WireFieldModel" (7 : Nat) "WireFieldModel" "head" "[I") ∈ jWS := jWS_in 740 rfl rfl
set_option maxRecDepth 100000 in
theorem w_700 : (Jvm.Cond.fieldLink "WireFieldModel" (13 : Nat) "WireFieldModel" "tail" "[I") ∈ jWS := jWS_in 741 rfl rfl
set_option maxRecDepth 100000 in
theorem w_701 : (Jvm.Cond.fieldLink "WireFieldModel" (16 : Nat) "WireFieldModel" "wire" "[I") ∈ jWS := jWS_in 742 rfl rfl
set_option maxRecDepth 100000 in
theorem w_702 : (Jvm.Cond.fieldLink "WireFieldModel" (19 : Nat) "WireFieldModel" "heads" "[I") ∈ jWS := jWS_in 743 rfl rfl
set_option maxRecDepth 100000 in
theorem w_703 : (Jvm.Cond.fieldLink "WireFieldModel" (22 : Nat) "WireFieldModel" "kept" "[I") ∈ jWS := jWS_in 744 rfl rfl
set_option maxRecDepth 100000 in
theorem w_704 : (Jvm.Cond.fieldLink "WireFieldModel" (25 : Nat) "WireFieldModel" "keptPlace" "[I") ∈ jWS := jWS_in 745 rfl rfl
set_option maxRecDepth 100000 in
theorem w_705 : (Jvm.Cond.fieldLink "WireFieldModel" (110 : Nat) "WireFieldModel" "at" "I") ∈ jWS := jWS_in 746 rfl rfl
set_option maxRecDepth 100000 in
theorem w_706 : (Jvm.Cond.fieldLink "WireFieldModel" (113 : Nat) "WireFieldModel" "history" "I") ∈ jWS := jWS_in 747 rfl rfl
set_option maxRecDepth 100000 in
theorem w_707 : (Jvm.Cond.fieldLink "WireFieldModel" (125 : Nat) "WireFieldModel" "time" "I") ∈ jWS := jWS_in 748 rfl rfl
set_option maxRecDepth 100000 in
theorem w_708 : (Jvm.Cond.fieldLink "WireFieldModel" (119 : Nat) "WireFieldModel" "sources" "I") ∈ jWS := jWS_in 749 rfl rfl
set_option maxRecDepth 100000 in
theorem w_709 : (Jvm.Cond.fieldLink "WireFieldModel" (28 : Nat) "WireFieldModel" "sourceX" "[I") ∈ jWS := jWS_in 750 rfl rfl
set_option maxRecDepth 100000 in
theorem w_710 : (Jvm.Cond.fieldLink "WireFieldModel" (31 : Nat) "WireFieldModel" "sourceY" "[I") ∈ jWS := jWS_in 751 rfl rfl
set_option maxRecDepth 100000 in
theorem w_711 : (Jvm.Cond.fieldLink "WireFieldModel" (34 : Nat) "WireFieldModel" "pattern" "[J") ∈ jWS := jWS_in 752 rfl rfl
set_option maxRecDepth 100000 in
theorem w_712 : (Jvm.Cond.fieldLink "WireFieldModel" (38 : Nat) "WireFieldModel" "many" "[I") ∈ jWS := jWS_in 753 rfl rfl
set_option maxRecDepth 100000 in
theorem w_713 : (Jvm.Cond.fieldLink "WireFieldModel" (41 : Nat) "WireFieldModel" "place" "[I") ∈ jWS := jWS_in 754 rfl rfl
set_option maxRecDepth 100000 in
theorem w_714 : (Jvm.Cond.fieldLink "WireFieldModel" (128 : Nat) "WireFieldModel" "probes" "I") ∈ jWS := jWS_in 755 rfl rfl
set_option maxRecDepth 100000 in
theorem w_715 : (Jvm.Cond.fieldLink "WireFieldModel" (44 : Nat) "WireFieldModel" "probeX" "[I") ∈ jWS := jWS_in 756 rfl rfl
set_option maxRecDepth 100000 in
theorem w_716 : (Jvm.Cond.fieldLink "WireFieldModel" (47 : Nat) "WireFieldModel" "probeY" "[I") ∈ jWS := jWS_in 757 rfl rfl
set_option maxRecDepth 100000 in
theorem w_717 : (Jvm.Cond.fieldLink "WireFieldModel" (50 : Nat) "WireFieldModel" "seen" "[I") ∈ jWS := jWS_in 758 rfl rfl
set_option maxRecDepth 100000 in
theorem w_718 : (Jvm.Cond.fieldLink "WireFieldModel" (53 : Nat) "WireFieldModel" "latest" "[I") ∈ jWS := jWS_in 759 rfl rfl
set_option maxRecDepth 100000 in
theorem w_719 : (Jvm.Cond.fieldLink "WireFieldModel" (56 : Nat) "WireFieldModel" "record" "[J") ∈ jWS := jWS_in 760 rfl rfl
set_option maxRecDepth 100000 in
theorem w_720 : (Jvm.Cond.fieldLink "WireFieldModel" (59 : Nat) "WireFieldModel" "text" "[I") ∈ jWS := jWS_in 761 rfl rfl
set_option maxRecDepth 100000 in
theorem w_721 : (Jvm.Cond.fieldLink "WireFieldModel" (62 : Nat) "WireFieldModel" "size" "[I") ∈ jWS := jWS_in 762 rfl rfl
set_option maxRecDepth 100000 in
theorem w_722 : (Jvm.Cond.fieldLink "WireFieldModel" (65 : Nat) "WireFieldModel" "uses" "[I") ∈ jWS := jWS_in 763 rfl rfl
set_option maxRecDepth 100000 in
theorem w_723 : (Jvm.Cond.fieldLink "WireFieldModel" (68 : Nat) "WireFieldModel" "drawnHead" "[I") ∈ jWS := jWS_in 764 rfl rfl
set_option maxRecDepth 100000 in
theorem w_724 : (Jvm.Cond.fieldLink "WireFieldModel" (71 : Nat) "WireFieldModel" "drawnTail" "[I") ∈ jWS := jWS_in 765 rfl rfl
set_option maxRecDepth 100000 in
theorem w_725 : (Jvm.Cond.fieldLink "WireFieldModel" (74 : Nat) "WireFieldModel" "drawnWire" "[I") ∈ jWS := jWS_in 766 rfl rfl
set_option maxRecDepth 100000 in
theorem w_726 : (Jvm.Cond.fieldLink "WireFieldModel" (167 : Nat) "WireFieldModel" "x" "I") ∈ jWS := jWS_in 767 rfl rfl
set_option maxRecDepth 100000 in
theorem w_727 : (Jvm.Cond.fieldLink "WireFieldModel" (176 : Nat) "WireFieldModel" "y" "I") ∈ jWS := jWS_in 768 rfl rfl
set_option maxRecDepth 100000 in
theorem w_728 : (Jvm.Cond.fieldLink "WireFieldModel" (170 : Nat) "WireFieldModel" "direction" "I") ∈ jWS := jWS_in 769 rfl rfl
set_option maxRecDepth 100000 in
theorem w_729 : (Jvm.Cond.fieldLink "WireFieldModel" (182 : Nat) "WireFieldModel" "up" "Z") ∈ jWS := jWS_in 770 rfl rfl
set_option maxRecDepth 100000 in
theorem w_730 : (Jvm.Cond.fieldLink "WireFieldModel" (156 : Nat) "WireFieldModel" "done" "I") ∈ jWS := jWS_in 771 rfl rfl
set_option maxRecDepth 100000 in
theorem w_731 : (Jvm.Cond.fieldLink "WireFieldModel" (159 : Nat) "WireFieldModel" "beyond" "Z") ∈ jWS := jWS_in 772 rfl rfl
set_option maxRecDepth 100000 in
theorem w_732 : (Jvm.Cond.fieldLink "WireFieldModel" (196 : Nat) "WireFieldModel" "opened" "I") ∈ jWS := jWS_in 773 rfl rfl
set_option maxRecDepth 100000 in
theorem w_733 : (Jvm.Cond.fieldLink "WireFieldModel" (77 : Nat) "WireFieldModel" "sign" "[I") ∈ jWS := jWS_in 774 rfl rfl
set_option maxRecDepth 100000 in
theorem w_734 : (Jvm.Cond.fieldLink "WireFieldModel" (80 : Nat) "WireFieldModel" "text0" "[I") ∈ jWS := jWS_in 775 rfl rfl
set_option maxRecDepth 100000 in
theorem w_735 : (Jvm.Cond.fieldLink "WireFieldModel" (83 : Nat) "WireFieldModel" "from" "[I") ∈ jWS := jWS_in 776 rfl rfl
set_option maxRecDepth 100000 in
theorem w_736 : (Jvm.Cond.fieldLink "WireFieldModel" (86 : Nat) "WireFieldModel" "left" "[I") ∈ jWS := jWS_in 777 rfl rfl
set_option maxRecDepth 100000 in
theorem w_737 : (Jvm.Cond.fieldLink "WireFieldModel" (89 : Nat) "WireFieldModel" "penX" "[I") ∈ jWS := jWS_in 778 rfl rfl
set_option maxRecDepth 100000 in
theorem w_738 : (Jvm.Cond.fieldLink "WireFieldModel" (92 : Nat) "WireFieldModel" "penY" "[I") ∈ jWS := jWS_in 779 rfl rfl
set_option maxRecDepth 100000 in
theorem w_739 : (Jvm.Cond.fieldLink "WireFieldModel" (95 : Nat) "WireFieldModel" "penDirection" "[I") ∈ jWS := jWS_in 780 rfl rfl
set_option maxRecDepth 100000 in
theorem w_740 : (Jvm.Cond.fieldLink "WireFieldModel" (98 : Nat) "WireFieldModel" "penUp" "[Z") ∈ jWS := jWS_in 781 rfl rfl
set_option maxRecDepth 100000 in
theorem w_741 : (Jvm.Cond.lays "WireFieldModel" "WireFieldModel" "thrown" "I") ∈ jWS := jWS_in 782 rfl rfl
set_option maxRecDepth 100000 in
theorem w_743 : (Jvm.Cond.laysFinal "WireFieldModel" "WireFieldModel" "head" "[I") ∈ jWS := jWS_in 784 rfl rfl
set_option maxRecDepth 100000 in
theorem w_745 : (Jvm.Cond.laysFinal "WireFieldModel" "WireFieldModel" "tail" "[I") ∈ jWS := jWS_in 786 rfl rfl
set_option maxRecDepth 100000 in
theorem w_747 : (Jvm.Cond.laysFinal "WireFieldModel" "WireFieldModel" "wire" "[I") ∈ jWS := jWS_in 788 rfl rfl
set_option maxRecDepth 100000 in
theorem w_749 : (Jvm.Cond.laysFinal "WireFieldModel" "WireFieldModel" "heads" "[I") ∈ jWS := jWS_in 790 rfl rfl
set_option maxRecDepth 100000 in
theorem w_751 : (Jvm.Cond.laysFinal "WireFieldModel" "WireFieldModel" "kept" "[I") ∈ jWS := jWS_in 792 rfl rfl
set_option maxRecDepth 100000 in
theorem w_753 : (Jvm.Cond.laysFinal "WireFieldModel" "WireFieldModel" "keptPlace" "[I") ∈ jWS := jWS_in 794 rfl rfl
set_option maxRecDepth 100000 in
theorem w_755 : (Jvm.Cond.lays "WireFieldModel" "WireFieldModel" "at" "I") ∈ jWS := jWS_in 796 rfl rfl
set_option maxRecDepth 100000 in
theorem w_757 : (Jvm.Cond.lays "WireFieldModel" "WireFieldModel" "history" "I") ∈ jWS := jWS_in 798 rfl rfl
set_option maxRecDepth 100000 in
theorem w_759 : (Jvm.Cond.lays "WireFieldModel" "WireFieldModel" "time" "I") ∈ jWS := jWS_in 800 rfl rfl
set_option maxRecDepth 100000 in
theorem w_761 : (Jvm.Cond.lays "WireFieldModel" "WireFieldModel" "sources" "I") ∈ jWS := jWS_in 802 rfl rfl
set_option maxRecDepth 100000 in
theorem w_763 : (Jvm.Cond.laysFinal "WireFieldModel" "WireFieldModel" "sourceX" "[I") ∈ jWS := jWS_in 804 rfl rfl
set_option maxRecDepth 100000 in
theorem w_765 : (Jvm.Cond.laysFinal "WireFieldModel" "WireFieldModel" "sourceY" "[I") ∈ jWS := jWS_in 806 rfl rfl
set_option maxRecDepth 100000 in
theorem w_767 : (Jvm.Cond.laysFinal "WireFieldModel" "WireFieldModel" "pattern" "[J") ∈ jWS := jWS_in 808 rfl rfl
set_option maxRecDepth 100000 in
theorem w_769 : (Jvm.Cond.laysFinal "WireFieldModel" "WireFieldModel" "many" "[I") ∈ jWS := jWS_in 810 rfl rfl
set_option maxRecDepth 100000 in
theorem w_771 : (Jvm.Cond.laysFinal "WireFieldModel" "WireFieldModel" "place" "[I") ∈ jWS := jWS_in 812 rfl rfl
set_option maxRecDepth 100000 in
theorem w_773 : (Jvm.Cond.lays "WireFieldModel" "WireFieldModel" "probes" "I") ∈ jWS := jWS_in 814 rfl rfl
set_option maxRecDepth 100000 in
theorem w_775 : (Jvm.Cond.laysFinal "WireFieldModel" "WireFieldModel" "probeX" "[I") ∈ jWS := jWS_in 816 rfl rfl
set_option maxRecDepth 100000 in
theorem w_777 : (Jvm.Cond.laysFinal "WireFieldModel" "WireFieldModel" "probeY" "[I") ∈ jWS := jWS_in 818 rfl rfl
set_option maxRecDepth 100000 in
theorem w_779 : (Jvm.Cond.laysFinal "WireFieldModel" "WireFieldModel" "seen" "[I") ∈ jWS := jWS_in 820 rfl rfl
set_option maxRecDepth 100000 in
theorem w_781 : (Jvm.Cond.laysFinal "WireFieldModel" "WireFieldModel" "latest" "[I") ∈ jWS := jWS_in 822 rfl rfl
set_option maxRecDepth 100000 in
theorem w_783 : (Jvm.Cond.laysFinal "WireFieldModel" "WireFieldModel" "record" "[J") ∈ jWS := jWS_in 824 rfl rfl
set_option maxRecDepth 100000 in
theorem w_785 : (Jvm.Cond.laysFinal "WireFieldModel" "WireFieldModel" "text" "[I") ∈ jWS := jWS_in 826 rfl rfl
set_option maxRecDepth 100000 in
theorem w_787 : (Jvm.Cond.laysFinal "WireFieldModel" "WireFieldModel" "size" "[I") ∈ jWS := jWS_in 828 rfl rfl
set_option maxRecDepth 100000 in
theorem w_789 : (Jvm.Cond.laysFinal "WireFieldModel" "WireFieldModel" "uses" "[I") ∈ jWS := jWS_in 830 rfl rfl
set_option maxRecDepth 100000 in
theorem w_791 : (Jvm.Cond.laysFinal "WireFieldModel" "WireFieldModel" "drawnHead" "[I") ∈ jWS := jWS_in 832 rfl rfl
set_option maxRecDepth 100000 in
theorem w_793 : (Jvm.Cond.laysFinal "WireFieldModel" "WireFieldModel" "drawnTail" "[I") ∈ jWS := jWS_in 834 rfl rfl
set_option maxRecDepth 100000 in
theorem w_795 : (Jvm.Cond.laysFinal "WireFieldModel" "WireFieldModel" "drawnWire" "[I") ∈ jWS := jWS_in 836 rfl rfl
set_option maxRecDepth 100000 in
theorem w_797 : (Jvm.Cond.lays "WireFieldModel" "WireFieldModel" "x" "I") ∈ jWS := jWS_in 838 rfl rfl
set_option maxRecDepth 100000 in
theorem w_799 : (Jvm.Cond.lays "WireFieldModel" "WireFieldModel" "y" "I") ∈ jWS := jWS_in 840 rfl rfl
set_option maxRecDepth 100000 in
theorem w_801 : (Jvm.Cond.lays "WireFieldModel" "WireFieldModel" "direction" "I") ∈ jWS := jWS_in 842 rfl rfl
set_option maxRecDepth 100000 in
theorem w_803 : (Jvm.Cond.lays "WireFieldModel" "WireFieldModel" "up" "Z") ∈ jWS := jWS_in 844 rfl rfl
set_option maxRecDepth 100000 in
theorem w_805 : (Jvm.Cond.lays "WireFieldModel" "WireFieldModel" "done" "I") ∈ jWS := jWS_in 846 rfl rfl
set_option maxRecDepth 100000 in
theorem w_807 : (Jvm.Cond.lays "WireFieldModel" "WireFieldModel" "beyond" "Z") ∈ jWS := jWS_in 848 rfl rfl
set_option maxRecDepth 100000 in
theorem w_809 : (Jvm.Cond.lays "WireFieldModel" "WireFieldModel" "opened" "I") ∈ jWS := jWS_in 850 rfl rfl
set_option maxRecDepth 100000 in
theorem w_811 : (Jvm.Cond.laysFinal "WireFieldModel" "WireFieldModel" "sign" "[I") ∈ jWS := jWS_in 852 rfl rfl
set_option maxRecDepth 100000 in
theorem w_813 : (Jvm.Cond.laysFinal "WireFieldModel" "WireFieldModel" "text0" "[I") ∈ jWS := jWS_in 854 rfl rfl
set_option maxRecDepth 100000 in
theorem w_815 : (Jvm.Cond.laysFinal "WireFieldModel" "WireFieldModel" "from" "[I") ∈ jWS := jWS_in 856 rfl rfl
set_option maxRecDepth 100000 in
theorem w_817 : (Jvm.Cond.laysFinal "WireFieldModel" "WireFieldModel" "left" "[I") ∈ jWS := jWS_in 858 rfl rfl
set_option maxRecDepth 100000 in
theorem w_819 : (Jvm.Cond.laysFinal "WireFieldModel" "WireFieldModel" "penX" "[I") ∈ jWS := jWS_in 860 rfl rfl
set_option maxRecDepth 100000 in
theorem w_821 : (Jvm.Cond.laysFinal "WireFieldModel" "WireFieldModel" "penY" "[I") ∈ jWS := jWS_in 862 rfl rfl
set_option maxRecDepth 100000 in
theorem w_823 : (Jvm.Cond.laysFinal "WireFieldModel" "WireFieldModel" "penDirection" "[I") ∈ jWS := jWS_in 864 rfl rfl
set_option maxRecDepth 100000 in
theorem w_825 : (Jvm.Cond.laysFinal "WireFieldModel" "WireFieldModel" "penUp" "[Z") ∈ jWS := jWS_in 866 rfl rfl
set_option maxRecDepth 100000 in
theorem w_828 : (Jvm.Cond.arrayClass Jvm.ClassFile.FieldType.long) ∈ jWS := jWS_in 869 rfl rfl
set_option maxRecDepth 100000 in
theorem w_829 : (Jvm.Cond.methodLink "WireFieldLaw" (42 : Nat) ({ cls := "WireFieldModel", name := "thrown", desc := "()I" } : Jvm.MethodName)) ∈ jWS := jWS_in 870 rfl rfl
set_option maxRecDepth 100000 in
theorem w_830 : (Jvm.Cond.instanceMethod ({ cls := "WireFieldModel", name := "thrown", desc := "()I" } : Jvm.MethodName)) ∈ jWS := jWS_in 871 rfl rfl
set_option maxRecDepth 100000 in
theorem w_831 : (Jvm.Cond.selects "WireFieldModel" ({ cls := "WireFieldModel", name := "thrown", desc := "()I" } : Jvm.MethodName) ({ cls := "WireFieldModel", name := "thrown", desc := "()I" } : Jvm.MethodName)) ∈ jWS := jWS_in 872 rfl rfl
set_option maxRecDepth 100000 in
theorem w_832 : (Jvm.Cond.code ({ cls := "WireFieldModel", name := "thrown", desc := "()I" } : Jvm.MethodName) prog_9_method_2_code (1 : Nat) (Option.some Jvm.ClassFile.FieldType.int)) ∈ jWS := jWS_in 873 rfl rfl
set_option maxRecDepth 100000 in
theorem w_833 : (Jvm.Cond.methodLink "WireFieldLaw" (83 : Nat) ({ cls := "WireFieldModel", name := "run", desc := "(I)I" } : Jvm.MethodName)) ∈ jWS := jWS_in 874 rfl rfl
set_option maxRecDepth 100000 in
theorem w_834 : (Jvm.Cond.instanceMethod ({ cls := "WireFieldModel", name := "run", desc := "(I)I" } : Jvm.MethodName)) ∈ jWS := jWS_in 875 rfl rfl
set_option maxRecDepth 100000 in
theorem w_835 : (Jvm.Cond.selects "WireFieldModel" ({ cls := "WireFieldModel", name := "run", desc := "(I)I" } : Jvm.MethodName) ({ cls := "WireFieldModel", name := "run", desc := "(I)I" } : Jvm.MethodName)) ∈ jWS := jWS_in 876 rfl rfl
set_option maxRecDepth 100000 in
theorem w_836 : (Jvm.Cond.code ({ cls := "WireFieldModel", name := "run", desc := "(I)I" } : Jvm.MethodName) prog_9_method_9_code (3 : Nat) (Option.some Jvm.ClassFile.FieldType.int)) ∈ jWS := jWS_in 877 rfl rfl
set_option maxRecDepth 100000 in
theorem w_837 : (Jvm.Cond.methodLink "WireFieldModel" (137 : Nat) ({ cls := "WireFieldModel", name := "generation", desc := "()V" } : Jvm.MethodName)) ∈ jWS := jWS_in 878 rfl rfl
set_option maxRecDepth 100000 in
theorem w_839 : (Jvm.Cond.instanceMethod ({ cls := "WireFieldModel", name := "generation", desc := "()V" } : Jvm.MethodName)) ∈ jWS := jWS_in 880 rfl rfl
set_option maxRecDepth 100000 in
theorem w_840 : (Jvm.Cond.code ({ cls := "WireFieldModel", name := "generation", desc := "()V" } : Jvm.MethodName) prog_9_method_8_code (3 : Nat) (Option.none : Option Jvm.ClassFile.FieldType)) ∈ jWS := jWS_in 881 rfl rfl
set_option maxRecDepth 100000 in
theorem w_841 : (Jvm.Cond.methodLink "WireFieldModel" (116 : Nat) ({ cls := "WireFieldModel", name := "keep", desc := "()V" } : Jvm.MethodName)) ∈ jWS := jWS_in 882 rfl rfl
set_option maxRecDepth 100000 in
theorem w_843 : (Jvm.Cond.instanceMethod ({ cls := "WireFieldModel", name := "keep", desc := "()V" } : Jvm.MethodName)) ∈ jWS := jWS_in 884 rfl rfl
set_option maxRecDepth 100000 in
theorem w_844 : (Jvm.Cond.code ({ cls := "WireFieldModel", name := "keep", desc := "()V" } : Jvm.MethodName) prog_9_method_7_code (2 : Nat) (Option.none : Option Jvm.ClassFile.FieldType)) ∈ jWS := jWS_in 885 rfl rfl
set_option maxRecDepth 100000 in
theorem w_845 : (Jvm.Cond.methodLink "WireFieldModel" (122 : Nat) ({ cls := "WireFieldModel", name := "lit", desc := "(I)I" } : Jvm.MethodName)) ∈ jWS := jWS_in 886 rfl rfl
set_option maxRecDepth 100000 in
theorem w_847 : (Jvm.Cond.instanceMethod ({ cls := "WireFieldModel", name := "lit", desc := "(I)I" } : Jvm.MethodName)) ∈ jWS := jWS_in 888 rfl rfl
set_option maxRecDepth 100000 in
theorem w_848 : (Jvm.Cond.code ({ cls := "WireFieldModel", name := "lit", desc := "(I)I" } : Jvm.MethodName) prog_9_method_6_code (9 : Nat) (Option.some Jvm.ClassFile.FieldType.int)) ∈ jWS := jWS_in 889 rfl rfl
set_option maxRecDepth 100000 in
theorem w_849 : (Jvm.Cond.methodLink "WireFieldModel" (106 : Nat) ({ cls := "WireFieldModel", name := "headsIn", desc := "(I)I" } : Jvm.MethodName)) ∈ jWS := jWS_in 890 rfl rfl
set_option maxRecDepth 100000 in
theorem w_851 : (Jvm.Cond.instanceMethod ({ cls := "WireFieldModel", name := "headsIn", desc := "(I)I" } : Jvm.MethodName)) ∈ jWS := jWS_in 892 rfl rfl
set_option maxRecDepth 100000 in
theorem w_852 : (Jvm.Cond.code ({ cls := "WireFieldModel", name := "headsIn", desc := "(I)I" } : Jvm.MethodName) prog_9_method_5_code (2 : Nat) (Option.some Jvm.ClassFile.FieldType.int)) ∈ jWS := jWS_in 893 rfl rfl
set_option maxRecDepth 100000 in
theorem w_853 : (Jvm.Cond.methodLink "WireFieldModel" (131 : Nat) ({ cls := "WireFieldModel", name := "bit", desc := "(II)I" } : Jvm.MethodName)) ∈ jWS := jWS_in 894 rfl rfl
set_option maxRecDepth 100000 in
theorem w_854 : (Jvm.Cond.static ({ cls := "WireFieldModel", name := "bit", desc := "(II)I" } : Jvm.MethodName)) ∈ jWS := jWS_in 895 rfl rfl
set_option maxRecDepth 100000 in
theorem w_855 : (Jvm.Cond.code ({ cls := "WireFieldModel", name := "bit", desc := "(II)I" } : Jvm.MethodName) prog_9_method_4_code (2 : Nat) (Option.some Jvm.ClassFile.FieldType.int)) ∈ jWS := jWS_in 896 rfl rfl
set_option maxRecDepth 100000 in
theorem w_856 : (Jvm.Cond.constantLong "WireFieldModel" (135 : Nat) (2 : Int64)) ∈ jWS := jWS_in 897 rfl rfl
set_option maxRecDepth 100000 in
theorem w_857 : (Jvm.Cond.methodLink "WireFieldModel" (140 : Nat) ({ cls := "WireFieldModel", name := "count", desc := "(I)I" } : Jvm.MethodName)) ∈ jWS := jWS_in 898 rfl rfl
set_option maxRecDepth 100000 in
theorem w_859 : (Jvm.Cond.instanceMethod ({ cls := "WireFieldModel", name := "count", desc := "(I)I" } : Jvm.MethodName)) ∈ jWS := jWS_in 900 rfl rfl
set_option maxRecDepth 100000 in
theorem w_860 : (Jvm.Cond.code ({ cls := "WireFieldModel", name := "count", desc := "(I)I" } : Jvm.MethodName) prog_9_method_40_code (5 : Nat) (Option.some Jvm.ClassFile.FieldType.int)) ∈ jWS := jWS_in 901 rfl rfl
set_option maxRecDepth 100000 in
theorem w_861 : (Jvm.Cond.methodLink "WireFieldLaw" (88 : Nat) ({ cls := "WireFieldModel", name := "back", desc := "(I)Z" } : Jvm.MethodName)) ∈ jWS := jWS_in 902 rfl rfl
set_option maxRecDepth 100000 in
theorem w_862 : (Jvm.Cond.instanceMethod ({ cls := "WireFieldModel", name := "back", desc := "(I)Z" } : Jvm.MethodName)) ∈ jWS := jWS_in 903 rfl rfl
set_option maxRecDepth 100000 in
theorem w_863 : (Jvm.Cond.selects "WireFieldModel" ({ cls := "WireFieldModel", name := "back", desc := "(I)Z" } : Jvm.MethodName) ({ cls := "WireFieldModel", name := "back", desc := "(I)Z" } : Jvm.MethodName)) ∈ jWS := jWS_in 904 rfl rfl
set_option maxRecDepth 100000 in
theorem w_864 : (Jvm.Cond.code ({ cls := "WireFieldModel", name := "back", desc := "(I)Z" } : Jvm.MethodName) prog_9_method_10_code (3 : Nat) (Option.some Jvm.ClassFile.FieldType.boolean)) ∈ jWS := jWS_in 905 rfl rfl
set_option maxRecDepth 100000 in
theorem w_865 : (Jvm.Cond.methodLink "WireFieldLaw" (92 : Nat) ({ cls := "WireFieldModel", name := "period", desc := "()I" } : Jvm.MethodName)) ∈ jWS := jWS_in 906 rfl rfl
set_option maxRecDepth 100000 in
theorem w_866 : (Jvm.Cond.instanceMethod ({ cls := "WireFieldModel", name := "period", desc := "()I" } : Jvm.MethodName)) ∈ jWS := jWS_in 907 rfl rfl
set_option maxRecDepth 100000 in
theorem w_867 : (Jvm.Cond.selects "WireFieldModel" ({ cls := "WireFieldModel", name := "period", desc := "()I" } : Jvm.MethodName) ({ cls := "WireFieldModel", name := "period", desc := "()I" } : Jvm.MethodName)) ∈ jWS := jWS_in 908 rfl rfl
set_option maxRecDepth 100000 in
theorem w_868 : (Jvm.Cond.code ({ cls := "WireFieldModel", name := "period", desc := "()I" } : Jvm.MethodName) prog_9_method_11_code (5 : Nat) (Option.some Jvm.ClassFile.FieldType.int)) ∈ jWS := jWS_in 909 rfl rfl
set_option maxRecDepth 100000 in
theorem w_869 : (Jvm.Cond.methodLink "WireFieldLaw" (35 : Nat) ({ cls := "WireFieldModel", name := "type", desc := "(C)Z" } : Jvm.MethodName)) ∈ jWS := jWS_in 910 rfl rfl
set_option maxRecDepth 100000 in
theorem w_870 : (Jvm.Cond.instanceMethod ({ cls := "WireFieldModel", name := "type", desc := "(C)Z" } : Jvm.MethodName)) ∈ jWS := jWS_in 911 rfl rfl
set_option maxRecDepth 100000 in
theorem w_871 : (Jvm.Cond.selects "WireFieldModel" ({ cls := "WireFieldModel", name := "type", desc := "(C)Z" } : Jvm.MethodName) ({ cls := "WireFieldModel", name := "type", desc := "(C)Z" } : Jvm.MethodName)) ∈ jWS := jWS_in 912 rfl rfl
set_option maxRecDepth 100000 in
theorem w_872 : (Jvm.Cond.code ({ cls := "WireFieldModel", name := "type", desc := "(C)Z" } : Jvm.MethodName) prog_9_method_12_code (2 : Nat) (Option.some Jvm.ClassFile.FieldType.boolean)) ∈ jWS := jWS_in 913 rfl rfl
set_option maxRecDepth 100000 in
theorem w_873 : (Jvm.Cond.methodLink "WireFieldLaw" (53 : Nat) ({ cls := "WireFieldModel", name := "wipe", desc := "()V" } : Jvm.MethodName)) ∈ jWS := jWS_in 914 rfl rfl
set_option maxRecDepth 100000 in
theorem w_874 : (Jvm.Cond.instanceMethod ({ cls := "WireFieldModel", name := "wipe", desc := "()V" } : Jvm.MethodName)) ∈ jWS := jWS_in 915 rfl rfl
set_option maxRecDepth 100000 in
theorem w_875 : (Jvm.Cond.selects "WireFieldModel" ({ cls := "WireFieldModel", name := "wipe", desc := "()V" } : Jvm.MethodName) ({ cls := "WireFieldModel", name := "wipe", desc := "()V" } : Jvm.MethodName)) ∈ jWS := jWS_in 916 rfl rfl
set_option maxRecDepth 100000 in
theorem w_876 : (Jvm.Cond.code ({ cls := "WireFieldModel", name := "wipe", desc := "()V" } : Jvm.MethodName) prog_9_method_13_code (1 : Nat) (Option.none : Option Jvm.ClassFile.FieldType)) ∈ jWS := jWS_in 917 rfl rfl
set_option maxRecDepth 100000 in
theorem w_877 : (Jvm.Cond.methodLink "WireFieldLaw" (49 : Nat) ({ cls := "WireFieldModel", name := "macro", desc := "(I)V" } : Jvm.MethodName)) ∈ jWS := jWS_in 918 rfl rfl
set_option maxRecDepth 100000 in
theorem w_878 : (Jvm.Cond.instanceMethod ({ cls := "WireFieldModel", name := "macro", desc := "(I)V" } : Jvm.MethodName)) ∈ jWS := jWS_in 919 rfl rfl
set_option maxRecDepth 100000 in
theorem w_879 : (Jvm.Cond.selects "WireFieldModel" ({ cls := "WireFieldModel", name := "macro", desc := "(I)V" } : Jvm.MethodName) ({ cls := "WireFieldModel", name := "macro", desc := "(I)V" } : Jvm.MethodName)) ∈ jWS := jWS_in 920 rfl rfl
set_option maxRecDepth 100000 in
theorem w_880 : (Jvm.Cond.code ({ cls := "WireFieldModel", name := "macro", desc := "(I)V" } : Jvm.MethodName) prog_9_method_19_code (3 : Nat) (Option.none : Option Jvm.ClassFile.FieldType)) ∈ jWS := jWS_in 921 rfl rfl
set_option maxRecDepth 100000 in
theorem w_881 : (Jvm.Cond.methodLink "WireFieldModel" (152 : Nat) ({ cls := "WireFieldModel", name := "reads", desc := "()Z" } : Jvm.MethodName)) ∈ jWS := jWS_in 922 rfl rfl
set_option maxRecDepth 100000 in
theorem w_883 : (Jvm.Cond.instanceMethod ({ cls := "WireFieldModel", name := "reads", desc := "()Z" } : Jvm.MethodName)) ∈ jWS := jWS_in 924 rfl rfl
set_option maxRecDepth 100000 in
theorem w_884 : (Jvm.Cond.code ({ cls := "WireFieldModel", name := "reads", desc := "()Z" } : Jvm.MethodName) prog_9_method_17_code (9 : Nat) (Option.some Jvm.ClassFile.FieldType.boolean)) ∈ jWS := jWS_in 925 rfl rfl
set_option maxRecDepth 100000 in
theorem w_885 : (Jvm.Cond.methodLink "WireFieldModel" (143 : Nat) ({ cls := "WireFieldModel", name := "sign", desc := "(II)I" } : Jvm.MethodName)) ∈ jWS := jWS_in 926 rfl rfl
set_option maxRecDepth 100000 in
theorem w_887 : (Jvm.Cond.instanceMethod ({ cls := "WireFieldModel", name := "sign", desc := "(II)I" } : Jvm.MethodName)) ∈ jWS := jWS_in 928 rfl rfl
set_option maxRecDepth 100000 in
theorem w_888 : (Jvm.Cond.code ({ cls := "WireFieldModel", name := "sign", desc := "(II)I" } : Jvm.MethodName) prog_9_method_14_code (3 : Nat) (Option.some Jvm.ClassFile.FieldType.int)) ∈ jWS := jWS_in 929 rfl rfl
set_option maxRecDepth 100000 in
theorem w_889 : (Jvm.Cond.methodLink "WireFieldModel" (145 : Nat) ({ cls := "WireFieldModel", name := "digit", desc := "(I)Z" } : Jvm.MethodName)) ∈ jWS := jWS_in 930 rfl rfl
set_option maxRecDepth 100000 in
theorem w_890 : (Jvm.Cond.static ({ cls := "WireFieldModel", name := "digit", desc := "(I)Z" } : Jvm.MethodName)) ∈ jWS := jWS_in 931 rfl rfl
set_option maxRecDepth 100000 in
theorem w_891 : (Jvm.Cond.code ({ cls := "WireFieldModel", name := "digit", desc := "(I)Z" } : Jvm.MethodName) prog_9_method_15_code (1 : Nat) (Option.some Jvm.ClassFile.FieldType.boolean)) ∈ jWS := jWS_in 932 rfl rfl
set_option maxRecDepth 100000 in
theorem w_892 : (Jvm.Cond.methodLink "WireFieldModel" (149 : Nat) ({ cls := "WireFieldModel", name := "single", desc := "(I)Z" } : Jvm.MethodName)) ∈ jWS := jWS_in 933 rfl rfl
set_option maxRecDepth 100000 in
theorem w_893 : (Jvm.Cond.static ({ cls := "WireFieldModel", name := "single", desc := "(I)Z" } : Jvm.MethodName)) ∈ jWS := jWS_in 934 rfl rfl
set_option maxRecDepth 100000 in
theorem w_894 : (Jvm.Cond.code ({ cls := "WireFieldModel", name := "single", desc := "(I)Z" } : Jvm.MethodName) prog_9_method_16_code (1 : Nat) (Option.some Jvm.ClassFile.FieldType.boolean)) ∈ jWS := jWS_in 935 rfl rfl
set_option maxRecDepth 100000 in
theorem w_895 : (Jvm.Cond.methodLink "WireFieldLaw" (41 : Nat) ({ cls := "WireFieldModel", name := "draw", desc := "(III)I" } : Jvm.MethodName)) ∈ jWS := jWS_in 936 rfl rfl
set_option maxRecDepth 100000 in
theorem w_896 : (Jvm.Cond.instanceMethod ({ cls := "WireFieldModel", name := "draw", desc := "(III)I" } : Jvm.MethodName)) ∈ jWS := jWS_in 937 rfl rfl
set_option maxRecDepth 100000 in
theorem w_897 : (Jvm.Cond.selects "WireFieldModel" ({ cls := "WireFieldModel", name := "draw", desc := "(III)I" } : Jvm.MethodName) ({ cls := "WireFieldModel", name := "draw", desc := "(III)I" } : Jvm.MethodName)) ∈ jWS := jWS_in 938 rfl rfl
set_option maxRecDepth 100000 in
theorem w_898 : (Jvm.Cond.code ({ cls := "WireFieldModel", name := "draw", desc := "(III)I" } : Jvm.MethodName) prog_9_method_31_code (5 : Nat) (Option.some Jvm.ClassFile.FieldType.int)) ∈ jWS := jWS_in 939 rfl rfl
set_option maxRecDepth 100000 in
theorem w_899 : (Jvm.Cond.methodLink "WireFieldModel" (163 : Nat) ({ cls := "WireFieldModel", name := "is", desc := "(II)Z" } : Jvm.MethodName)) ∈ jWS := jWS_in 940 rfl rfl
set_option maxRecDepth 100000 in
theorem w_900 : (Jvm.Cond.static ({ cls := "WireFieldModel", name := "is", desc := "(II)Z" } : Jvm.MethodName)) ∈ jWS := jWS_in 941 rfl rfl
set_option maxRecDepth 100000 in
theorem w_901 : (Jvm.Cond.code ({ cls := "WireFieldModel", name := "is", desc := "(II)Z" } : Jvm.MethodName) prog_9_method_3_code (2 : Nat) (Option.some Jvm.ClassFile.FieldType.boolean)) ∈ jWS := jWS_in 942 rfl rfl
set_option maxRecDepth 100000 in
theorem w_902 : (Jvm.Cond.methodLink "WireFieldModel" (216 : Nat) ({ cls := "WireFieldModel", name := "complete", desc := "()Z" } : Jvm.MethodName)) ∈ jWS := jWS_in 943 rfl rfl
set_option maxRecDepth 100000 in
theorem w_904 : (Jvm.Cond.instanceMethod ({ cls := "WireFieldModel", name := "complete", desc := "()Z" } : Jvm.MethodName)) ∈ jWS := jWS_in 945 rfl rfl
set_option maxRecDepth 100000 in
theorem w_905 : (Jvm.Cond.code ({ cls := "WireFieldModel", name := "complete", desc := "()Z" } : Jvm.MethodName) prog_9_method_18_code (3 : Nat) (Option.some Jvm.ClassFile.FieldType.boolean)) ∈ jWS := jWS_in 946 rfl rfl
set_option maxRecDepth 100000 in
theorem w_906 : (Jvm.Cond.methodLink "WireFieldModel" (219 : Nat) ({ cls := "WireFieldModel", name := "goThrough", desc := "()V" } : Jvm.MethodName)) ∈ jWS := jWS_in 947 rfl rfl
set_option maxRecDepth 100000 in
theorem w_908 : (Jvm.Cond.instanceMethod ({ cls := "WireFieldModel", name := "goThrough", desc := "()V" } : Jvm.MethodName)) ∈ jWS := jWS_in 949 rfl rfl
set_option maxRecDepth 100000 in
theorem w_909 : (Jvm.Cond.code ({ cls := "WireFieldModel", name := "goThrough", desc := "()V" } : Jvm.MethodName) prog_9_method_30_code (6 : Nat) (Option.none : Option Jvm.ClassFile.FieldType)) ∈ jWS := jWS_in 950 rfl rfl
set_option maxRecDepth 100000 in
theorem w_910 : (Jvm.Cond.methodLink "WireFieldModel" (202 : Nat) ({ cls := "WireFieldModel", name := "comeBack", desc := "()V" } : Jvm.MethodName)) ∈ jWS := jWS_in 951 rfl rfl
set_option maxRecDepth 100000 in
theorem w_912 : (Jvm.Cond.instanceMethod ({ cls := "WireFieldModel", name := "comeBack", desc := "()V" } : Jvm.MethodName)) ∈ jWS := jWS_in 953 rfl rfl
set_option maxRecDepth 100000 in
theorem w_913 : (Jvm.Cond.code ({ cls := "WireFieldModel", name := "comeBack", desc := "()V" } : Jvm.MethodName) prog_9_method_28_code (2 : Nat) (Option.none : Option Jvm.ClassFile.FieldType)) ∈ jWS := jWS_in 954 rfl rfl
set_option maxRecDepth 100000 in
theorem w_914 : (Jvm.Cond.methodLink "WireFieldModel" (199 : Nat) ({ cls := "WireFieldModel", name := "again", desc := "()V" } : Jvm.MethodName)) ∈ jWS := jWS_in 955 rfl rfl
set_option maxRecDepth 100000 in
theorem w_916 : (Jvm.Cond.instanceMethod ({ cls := "WireFieldModel", name := "again", desc := "()V" } : Jvm.MethodName)) ∈ jWS := jWS_in 957 rfl rfl
set_option maxRecDepth 100000 in
theorem w_917 : (Jvm.Cond.code ({ cls := "WireFieldModel", name := "again", desc := "()V" } : Jvm.MethodName) prog_9_method_27_code (2 : Nat) (Option.none : Option Jvm.ClassFile.FieldType)) ∈ jWS := jWS_in 958 rfl rfl
set_option maxRecDepth 100000 in
theorem w_918 : (Jvm.Cond.methodLink "WireFieldModel" (189 : Nat) ({ cls := "WireFieldModel", name := "countOne", desc := "()V" } : Jvm.MethodName)) ∈ jWS := jWS_in 959 rfl rfl
set_option maxRecDepth 100000 in
theorem w_920 : (Jvm.Cond.instanceMethod ({ cls := "WireFieldModel", name := "countOne", desc := "()V" } : Jvm.MethodName)) ∈ jWS := jWS_in 961 rfl rfl
set_option maxRecDepth 100000 in
theorem w_921 : (Jvm.Cond.code ({ cls := "WireFieldModel", name := "countOne", desc := "()V" } : Jvm.MethodName) prog_9_method_22_code (1 : Nat) (Option.none : Option Jvm.ClassFile.FieldType)) ∈ jWS := jWS_in 962 rfl rfl
set_option maxRecDepth 100000 in
theorem w_922 : (Jvm.Cond.methodLink "WireFieldModel" (205 : Nat) ({ cls := "WireFieldModel", name := "open", desc := "(IIII)V" } : Jvm.MethodName)) ∈ jWS := jWS_in 963 rfl rfl
set_option maxRecDepth 100000 in
theorem w_924 : (Jvm.Cond.instanceMethod ({ cls := "WireFieldModel", name := "open", desc := "(IIII)V" } : Jvm.MethodName)) ∈ jWS := jWS_in 965 rfl rfl
set_option maxRecDepth 100000 in
theorem w_925 : (Jvm.Cond.code ({ cls := "WireFieldModel", name := "open", desc := "(IIII)V" } : Jvm.MethodName) prog_9_method_26_code (5 : Nat) (Option.none : Option Jvm.ClassFile.FieldType)) ∈ jWS := jWS_in 966 rfl rfl
set_option maxRecDepth 100000 in
theorem w_926 : (Jvm.Cond.methodLink "WireFieldModel" (209 : Nat) ({ cls := "WireFieldModel", name := "behind", desc := "(II)I" } : Jvm.MethodName)) ∈ jWS := jWS_in 967 rfl rfl
set_option maxRecDepth 100000 in
theorem w_928 : (Jvm.Cond.instanceMethod ({ cls := "WireFieldModel", name := "behind", desc := "(II)I" } : Jvm.MethodName)) ∈ jWS := jWS_in 969 rfl rfl
set_option maxRecDepth 100000 in
theorem w_929 : (Jvm.Cond.code ({ cls := "WireFieldModel", name := "behind", desc := "(II)I" } : Jvm.MethodName) prog_9_method_29_code (6 : Nat) (Option.some Jvm.ClassFile.FieldType.int)) ∈ jWS := jWS_in 970 rfl rfl
set_option maxRecDepth 100000 in
theorem w_930 : (Jvm.Cond.methodLink "WireFieldModel" (212 : Nat) ({ cls := "WireFieldModel", name := "obey", desc := "(I)V" } : Jvm.MethodName)) ∈ jWS := jWS_in 971 rfl rfl
set_option maxRecDepth 100000 in
theorem w_932 : (Jvm.Cond.instanceMethod ({ cls := "WireFieldModel", name := "obey", desc := "(I)V" } : Jvm.MethodName)) ∈ jWS := jWS_in 973 rfl rfl
set_option maxRecDepth 100000 in
theorem w_933 : (Jvm.Cond.code ({ cls := "WireFieldModel", name := "obey", desc := "(I)V" } : Jvm.MethodName) prog_9_method_25_code (4 : Nat) (Option.none : Option Jvm.ClassFile.FieldType)) ∈ jWS := jWS_in 974 rfl rfl
set_option maxRecDepth 100000 in
theorem w_934 : (Jvm.Cond.methodLink "WireFieldModel" (192 : Nat) ({ cls := "WireFieldModel", name := "step", desc := "(IZZ)V" } : Jvm.MethodName)) ∈ jWS := jWS_in 975 rfl rfl
set_option maxRecDepth 100000 in
theorem w_936 : (Jvm.Cond.instanceMethod ({ cls := "WireFieldModel", name := "step", desc := "(IZZ)V" } : Jvm.MethodName)) ∈ jWS := jWS_in 977 rfl rfl
set_option maxRecDepth 100000 in
theorem w_937 : (Jvm.Cond.code ({ cls := "WireFieldModel", name := "step", desc := "(IZZ)V" } : Jvm.MethodName) prog_9_method_24_code (8 : Nat) (Option.none : Option Jvm.ClassFile.FieldType)) ∈ jWS := jWS_in 978 rfl rfl
set_option maxRecDepth 100000 in
theorem w_938 : (Jvm.Cond.methodLink "WireFieldModel" (173 : Nat) ({ cls := "WireFieldModel", name := "across", desc := "(I)I" } : Jvm.MethodName)) ∈ jWS := jWS_in 979 rfl rfl
set_option maxRecDepth 100000 in
theorem w_939 : (Jvm.Cond.static ({ cls := "WireFieldModel", name := "across", desc := "(I)I" } : Jvm.MethodName)) ∈ jWS := jWS_in 980 rfl rfl
set_option maxRecDepth 100000 in
theorem w_940 : (Jvm.Cond.code ({ cls := "WireFieldModel", name := "across", desc := "(I)I" } : Jvm.MethodName) prog_9_method_20_code (1 : Nat) (Option.some Jvm.ClassFile.FieldType.int)) ∈ jWS := jWS_in 981 rfl rfl
set_option maxRecDepth 100000 in
theorem w_941 : (Jvm.Cond.methodLink "WireFieldModel" (179 : Nat) ({ cls := "WireFieldModel", name := "down", desc := "(I)I" } : Jvm.MethodName)) ∈ jWS := jWS_in 982 rfl rfl
set_option maxRecDepth 100000 in
theorem w_942 : (Jvm.Cond.static ({ cls := "WireFieldModel", name := "down", desc := "(I)I" } : Jvm.MethodName)) ∈ jWS := jWS_in 983 rfl rfl
set_option maxRecDepth 100000 in
theorem w_943 : (Jvm.Cond.code ({ cls := "WireFieldModel", name := "down", desc := "(I)I" } : Jvm.MethodName) prog_9_method_21_code (1 : Nat) (Option.some Jvm.ClassFile.FieldType.int)) ∈ jWS := jWS_in 984 rfl rfl
set_option maxRecDepth 100000 in
theorem w_944 : (Jvm.Cond.methodLink "WireFieldModel" (185 : Nat) ({ cls := "WireFieldModel", name := "put", desc := "(III)V" } : Jvm.MethodName)) ∈ jWS := jWS_in 985 rfl rfl
set_option maxRecDepth 100000 in
theorem w_946 : (Jvm.Cond.instanceMethod ({ cls := "WireFieldModel", name := "put", desc := "(III)V" } : Jvm.MethodName)) ∈ jWS := jWS_in 987 rfl rfl
set_option maxRecDepth 100000 in
theorem w_947 : (Jvm.Cond.code ({ cls := "WireFieldModel", name := "put", desc := "(III)V" } : Jvm.MethodName) prog_9_method_23_code (5 : Nat) (Option.none : Option Jvm.ClassFile.FieldType)) ∈ jWS := jWS_in 988 rfl rfl
set_option maxRecDepth 100000 in
theorem w_948 : (Jvm.Cond.methodLink "WireFieldLaw" (58 : Nat) ({ cls := "WireFieldModel", name := "set", desc := "(III)Z" } : Jvm.MethodName)) ∈ jWS := jWS_in 989 rfl rfl
set_option maxRecDepth 100000 in
theorem w_949 : (Jvm.Cond.instanceMethod ({ cls := "WireFieldModel", name := "set", desc := "(III)Z" } : Jvm.MethodName)) ∈ jWS := jWS_in 990 rfl rfl
set_option maxRecDepth 100000 in
theorem w_950 : (Jvm.Cond.selects "WireFieldModel" ({ cls := "WireFieldModel", name := "set", desc := "(III)Z" } : Jvm.MethodName) ({ cls := "WireFieldModel", name := "set", desc := "(III)Z" } : Jvm.MethodName)) ∈ jWS := jWS_in 991 rfl rfl
set_option maxRecDepth 100000 in
theorem w_951 : (Jvm.Cond.code ({ cls := "WireFieldModel", name := "set", desc := "(III)Z" } : Jvm.MethodName) prog_9_method_33_code (4 : Nat) (Option.some Jvm.ClassFile.FieldType.boolean)) ∈ jWS := jWS_in 992 rfl rfl
set_option maxRecDepth 100000 in
theorem w_952 : (Jvm.Cond.methodLink "WireFieldModel" (222 : Nat) ({ cls := "WireFieldModel", name := "change", desc := "(III)V" } : Jvm.MethodName)) ∈ jWS := jWS_in 993 rfl rfl
set_option maxRecDepth 100000 in
theorem w_954 : (Jvm.Cond.instanceMethod ({ cls := "WireFieldModel", name := "change", desc := "(III)V" } : Jvm.MethodName)) ∈ jWS := jWS_in 995 rfl rfl
set_option maxRecDepth 100000 in
theorem w_955 : (Jvm.Cond.code ({ cls := "WireFieldModel", name := "change", desc := "(III)V" } : Jvm.MethodName) prog_9_method_32_code (5 : Nat) (Option.none : Option Jvm.ClassFile.FieldType)) ∈ jWS := jWS_in 996 rfl rfl
set_option maxRecDepth 100000 in
theorem w_956 : (Jvm.Cond.methodLink "WireFieldLaw" (62 : Nat) ({ cls := "WireFieldModel", name := "cell", desc := "(II)I" } : Jvm.MethodName)) ∈ jWS := jWS_in 997 rfl rfl
set_option maxRecDepth 100000 in
theorem w_957 : (Jvm.Cond.instanceMethod ({ cls := "WireFieldModel", name := "cell", desc := "(II)I" } : Jvm.MethodName)) ∈ jWS := jWS_in 998 rfl rfl
set_option maxRecDepth 100000 in
theorem w_958 : (Jvm.Cond.selects "WireFieldModel" ({ cls := "WireFieldModel", name := "cell", desc := "(II)I" } : Jvm.MethodName) ({ cls := "WireFieldModel", name := "cell", desc := "(II)I" } : Jvm.MethodName)) ∈ jWS := jWS_in 999 rfl rfl
set_option maxRecDepth 100000 in
theorem w_959 : (Jvm.Cond.code ({ cls := "WireFieldModel", name := "cell", desc := "(II)I" } : Jvm.MethodName) prog_9_method_34_code (3 : Nat) (Option.some Jvm.ClassFile.FieldType.int)) ∈ jWS := jWS_in 1000 rfl rfl
set_option maxRecDepth 100000 in
theorem w_960 : (Jvm.Cond.methodLink "WireFieldLaw" (67 : Nat) ({ cls := "WireFieldModel", name := "copy", desc := "(IIIIIII)Z" } : Jvm.MethodName)) ∈ jWS := jWS_in 1001 rfl rfl
set_option maxRecDepth 100000 in
theorem w_961 : (Jvm.Cond.instanceMethod ({ cls := "WireFieldModel", name := "copy", desc := "(IIIIIII)Z" } : Jvm.MethodName)) ∈ jWS := jWS_in 1002 rfl rfl
set_option maxRecDepth 100000 in
theorem w_962 : (Jvm.Cond.selects "WireFieldModel" ({ cls := "WireFieldModel", name := "copy", desc := "(IIIIIII)Z" } : Jvm.MethodName) ({ cls := "WireFieldModel", name := "copy", desc := "(IIIIIII)Z" } : Jvm.MethodName)) ∈ jWS := jWS_in 1003 rfl rfl
set_option maxRecDepth 100000 in
theorem w_963 : (Jvm.Cond.code ({ cls := "WireFieldModel", name := "copy", desc := "(IIIIIII)Z" } : Jvm.MethodName) prog_9_method_35_code (18 : Nat) (Option.some Jvm.ClassFile.FieldType.boolean)) ∈ jWS := jWS_in 1004 rfl rfl
set_option maxRecDepth 100000 in
theorem w_964 : (Jvm.Cond.methodLink "WireFieldLaw" (74 : Nat) ({ cls := "WireFieldModel", name := "source", desc := "(IIJI)I" } : Jvm.MethodName)) ∈ jWS := jWS_in 1005 rfl rfl
set_option maxRecDepth 100000 in
theorem w_965 : (Jvm.Cond.instanceMethod ({ cls := "WireFieldModel", name := "source", desc := "(IIJI)I" } : Jvm.MethodName)) ∈ jWS := jWS_in 1006 rfl rfl
set_option maxRecDepth 100000 in
theorem w_966 : (Jvm.Cond.selects "WireFieldModel" ({ cls := "WireFieldModel", name := "source", desc := "(IIJI)I" } : Jvm.MethodName) ({ cls := "WireFieldModel", name := "source", desc := "(IIJI)I" } : Jvm.MethodName)) ∈ jWS := jWS_in 1007 rfl rfl
set_option maxRecDepth 100000 in
theorem w_967 : (Jvm.Cond.code ({ cls := "WireFieldModel", name := "source", desc := "(IIJI)I" } : Jvm.MethodName) prog_9_method_36_code (6 : Nat) (Option.some Jvm.ClassFile.FieldType.int)) ∈ jWS := jWS_in 1008 rfl rfl
set_option maxRecDepth 100000 in
theorem w_968 : (Jvm.Cond.methodLink "WireFieldLaw" (78 : Nat) ({ cls := "WireFieldModel", name := "probe", desc := "(II)I" } : Jvm.MethodName)) ∈ jWS := jWS_in 1009 rfl rfl
set_option maxRecDepth 100000 in
theorem w_969 : (Jvm.Cond.instanceMethod ({ cls := "WireFieldModel", name := "probe", desc := "(II)I" } : Jvm.MethodName)) ∈ jWS := jWS_in 1010 rfl rfl
set_option maxRecDepth 100000 in
theorem w_970 : (Jvm.Cond.selects "WireFieldModel" ({ cls := "WireFieldModel", name := "probe", desc := "(II)I" } : Jvm.MethodName) ({ cls := "WireFieldModel", name := "probe", desc := "(II)I" } : Jvm.MethodName)) ∈ jWS := jWS_in 1011 rfl rfl
set_option maxRecDepth 100000 in
theorem w_971 : (Jvm.Cond.code ({ cls := "WireFieldModel", name := "probe", desc := "(II)I" } : Jvm.MethodName) prog_9_method_37_code (3 : Nat) (Option.some Jvm.ClassFile.FieldType.int)) ∈ jWS := jWS_in 1012 rfl rfl
set_option maxRecDepth 100000 in
theorem w_972 : (Jvm.Cond.methodLink "WireFieldLaw" (96 : Nat) ({ cls := "WireFieldModel", name := "seen", desc := "(II)I" } : Jvm.MethodName)) ∈ jWS := jWS_in 1013 rfl rfl
set_option maxRecDepth 100000 in
theorem w_973 : (Jvm.Cond.instanceMethod ({ cls := "WireFieldModel", name := "seen", desc := "(II)I" } : Jvm.MethodName)) ∈ jWS := jWS_in 1014 rfl rfl
set_option maxRecDepth 100000 in
theorem w_974 : (Jvm.Cond.selects "WireFieldModel" ({ cls := "WireFieldModel", name := "seen", desc := "(II)I" } : Jvm.MethodName) ({ cls := "WireFieldModel", name := "seen", desc := "(II)I" } : Jvm.MethodName)) ∈ jWS := jWS_in 1015 rfl rfl
set_option maxRecDepth 100000 in
theorem w_975 : (Jvm.Cond.code ({ cls := "WireFieldModel", name := "seen", desc := "(II)I" } : Jvm.MethodName) prog_9_method_38_code (3 : Nat) (Option.some Jvm.ClassFile.FieldType.int)) ∈ jWS := jWS_in 1016 rfl rfl
set_option maxRecDepth 100000 in
theorem w_976 : (Jvm.Cond.methodLink "WireFieldLaw" (101 : Nat) ({ cls := "WireFieldModel", name := "record", desc := "(I)J" } : Jvm.MethodName)) ∈ jWS := jWS_in 1017 rfl rfl
set_option maxRecDepth 100000 in
theorem w_977 : (Jvm.Cond.instanceMethod ({ cls := "WireFieldModel", name := "record", desc := "(I)J" } : Jvm.MethodName)) ∈ jWS := jWS_in 1018 rfl rfl
set_option maxRecDepth 100000 in
theorem w_978 : (Jvm.Cond.selects "WireFieldModel" ({ cls := "WireFieldModel", name := "record", desc := "(I)J" } : Jvm.MethodName) ({ cls := "WireFieldModel", name := "record", desc := "(I)J" } : Jvm.MethodName)) ∈ jWS := jWS_in 1019 rfl rfl
set_option maxRecDepth 100000 in
theorem w_979 : (Jvm.Cond.code ({ cls := "WireFieldModel", name := "record", desc := "(I)J" } : Jvm.MethodName) prog_9_method_39_code (2 : Nat) (Option.some Jvm.ClassFile.FieldType.long)) ∈ jWS := jWS_in 1020 rfl rfl
set_option maxRecDepth 100000 in
theorem w_980 : (Jvm.Cond.methodLink "WireFieldLaw" (105 : Nat) ({ cls := "WireFieldModel", name := "look", desc := "(I)I" } : Jvm.MethodName)) ∈ jWS := jWS_in 1021 rfl rfl
set_option maxRecDepth 100000 in
theorem w_981 : (Jvm.Cond.instanceMethod ({ cls := "WireFieldModel", name := "look", desc := "(I)I" } : Jvm.MethodName)) ∈ jWS := jWS_in 1022 rfl rfl
set_option maxRecDepth 100000 in
theorem w_982 : (Jvm.Cond.selects "WireFieldModel" ({ cls := "WireFieldModel", name := "look", desc := "(I)I" } : Jvm.MethodName) ({ cls := "WireFieldModel", name := "look", desc := "(I)I" } : Jvm.MethodName)) ∈ jWS := jWS_in 1023 rfl rfl
set_option maxRecDepth 100000 in
theorem w_983 : (Jvm.Cond.code ({ cls := "WireFieldModel", name := "look", desc := "(I)I" } : Jvm.MethodName) prog_9_method_41_code (2 : Nat) (Option.some Jvm.ClassFile.FieldType.int)) ∈ jWS := jWS_in 1024 rfl rfl
set_option maxRecDepth 100000 in
theorem w_984 : (Jvm.Cond.constantLong "WireFieldLaw" (68 : Nat) (4294967295 : Int64)) ∈ jWS := jWS_in 1025 rfl rfl
set_option maxRecDepth 100000 in
theorem w_986 : (Jvm.Cond.fieldLink "java/lang/String" (15 : Nat) "java/lang/String" "coder" "B") ∈ jWS := jWS_in 1027 rfl rfl
set_option maxRecDepth 100000 in
theorem w_987 : (Jvm.Cond.fieldLink "java/lang/String" (9 : Nat) "java/lang/String" "value" "[B") ∈ jWS := jWS_in 1028 rfl rfl
set_option maxRecDepth 100000 in
theorem w_s0 : (Jvm.Cond.selects "WireField" ({ cls := "WireField", name := "forgetHistory", desc := "()V" } : Jvm.MethodName) ({ cls := "WireField", name := "forgetHistory", desc := "()V" } : Jvm.MethodName)) ∈ jWS := jWS_in 0 rfl rfl
set_option maxRecDepth 100000 in
theorem w_s1 : (Jvm.Cond.selects "WireField" ({ cls := "WireField", name := "putTurned", desc := "(IIIIIII)V" } : Jvm.MethodName) ({ cls := "WireField", name := "putTurned", desc := "(IIIIIII)V" } : Jvm.MethodName)) ∈ jWS := jWS_in 1 rfl rfl
set_option maxRecDepth 100000 in
theorem w_s2 : (Jvm.Cond.selects "WireField" ({ cls := "WireField", name := "makeGeneration", desc := "()V" } : Jvm.MethodName) ({ cls := "WireField", name := "makeGeneration", desc := "()V" } : Jvm.MethodName)) ∈ jWS := jWS_in 2 rfl rfl
set_option maxRecDepth 100000 in
theorem w_s3 : (Jvm.Cond.selects "WireField" ({ cls := "WireField", name := "keepMoment", desc := "()V" } : Jvm.MethodName) ({ cls := "WireField", name := "keepMoment", desc := "()V" } : Jvm.MethodName)) ∈ jWS := jWS_in 3 rfl rfl
set_option maxRecDepth 100000 in
theorem w_s4 : (Jvm.Cond.selects "WireField" ({ cls := "WireField", name := "momentAt", desc := "(I)LWireField$Moment;" } : Jvm.MethodName) ({ cls := "WireField", name := "momentAt", desc := "(I)LWireField$Moment;" } : Jvm.MethodName)) ∈ jWS := jWS_in 4 rfl rfl
set_option maxRecDepth 100000 in
theorem w_s5 : (Jvm.Cond.selects "WireField$Grid" ({ cls := "WireField$Grid", name := "besideOneOrTwoHeads", desc := "(I)I" } : Jvm.MethodName) ({ cls := "WireField$Grid", name := "besideOneOrTwoHeads", desc := "(I)I" } : Jvm.MethodName)) ∈ jWS := jWS_in 5 rfl rfl
set_option maxRecDepth 100000 in
theorem w_s6 : (Jvm.Cond.selects "java/lang/Throwable" ({ cls := "java/lang/Throwable", name := "fillInStackTrace", desc := "(I)Ljava/lang/Throwable;" } : Jvm.MethodName) ({ cls := "java/lang/Throwable", name := "fillInStackTrace", desc := "(I)Ljava/lang/Throwable;" } : Jvm.MethodName)) ∈ jWS := jWS_in 6 rfl rfl
set_option maxRecDepth 100000 in
theorem w_s7 : (Jvm.Cond.selects "WireField$Text" ({ cls := "WireField$Text", name := "endOfOrders", desc := "(III)I" } : Jvm.MethodName) ({ cls := "WireField$Text", name := "endOfOrders", desc := "(III)I" } : Jvm.MethodName)) ∈ jWS := jWS_in 7 rfl rfl
set_option maxRecDepth 100000 in
theorem w_s8 : (Jvm.Cond.selects "WireField$Text" ({ cls := "WireField$Text", name := "endOfOrder", desc := "(III)I" } : Jvm.MethodName) ({ cls := "WireField$Text", name := "endOfOrder", desc := "(III)I" } : Jvm.MethodName)) ∈ jWS := jWS_in 8 rfl rfl
set_option maxRecDepth 100000 in
theorem w_s9 : (Jvm.Cond.selects "WireField$Text" ({ cls := "WireField$Text", name := "endOfBracket", desc := "(ICII)I" } : Jvm.MethodName) ({ cls := "WireField$Text", name := "endOfBracket", desc := "(ICII)I" } : Jvm.MethodName)) ∈ jWS := jWS_in 9 rfl rfl
set_option maxRecDepth 100000 in
theorem w_s10 : (Jvm.Cond.selects "WireField" ({ cls := "WireField", name := "macrosOfLineAreThere", desc := "()Z" } : Jvm.MethodName) ({ cls := "WireField", name := "macrosOfLineAreThere", desc := "()Z" } : Jvm.MethodName)) ∈ jWS := jWS_in 10 rfl rfl
set_option maxRecDepth 100000 in
theorem w_s11 : (Jvm.Cond.selects "WireField" ({ cls := "WireField", name := "perform", desc := "(LWireField$Text;III)Z" } : Jvm.MethodName) ({ cls := "WireField", name := "perform", desc := "(LWireField$Text;III)Z" } : Jvm.MethodName)) ∈ jWS := jWS_in 11 rfl rfl
set_option maxRecDepth 100000 in
theorem w_s12 : (Jvm.Cond.selects "WireField" ({ cls := "WireField", name := "performOrder", desc := "(LWireField$Text;III)Z" } : Jvm.MethodName) ({ cls := "WireField", name := "performOrder", desc := "(LWireField$Text;III)Z" } : Jvm.MethodName)) ∈ jWS := jWS_in 12 rfl rfl
set_option maxRecDepth 100000 in
theorem w_s13 : (Jvm.Cond.selects "WireField" ({ cls := "WireField", name := "performBranch", desc := "(LWireField$Text;III)Z" } : Jvm.MethodName) ({ cls := "WireField", name := "performBranch", desc := "(LWireField$Text;III)Z" } : Jvm.MethodName)) ∈ jWS := jWS_in 13 rfl rfl
set_option maxRecDepth 100000 in
theorem w_s14 : (Jvm.Cond.selects "WireField" ({ cls := "WireField", name := "performMacro", desc := "(II)Z" } : Jvm.MethodName) ({ cls := "WireField", name := "performMacro", desc := "(II)Z" } : Jvm.MethodName)) ∈ jWS := jWS_in 14 rfl rfl
set_option maxRecDepth 100000 in
theorem w_s15 : (Jvm.Cond.selects "WireField$Pen" ({ cls := "WireField$Pen", name := "drawForward", desc := "()Z" } : Jvm.MethodName) ({ cls := "WireField$Pen", name := "drawForward", desc := "()Z" } : Jvm.MethodName)) ∈ jWS := jWS_in 15 rfl rfl
set_option maxRecDepth 100000 in
theorem w_s16 : (Jvm.Cond.selects "WireField$Pen" ({ cls := "WireField$Pen", name := "move", desc := "(I)Z" } : Jvm.MethodName) ({ cls := "WireField$Pen", name := "move", desc := "(I)Z" } : Jvm.MethodName)) ∈ jWS := jWS_in 16 rfl rfl
set_option maxRecDepth 100000 in
theorem w_s17 : (Jvm.Cond.selects "WireField$Pen" ({ cls := "WireField$Pen", name := "columnAt", desc := "(II)I" } : Jvm.MethodName) ({ cls := "WireField$Pen", name := "columnAt", desc := "(II)I" } : Jvm.MethodName)) ∈ jWS := jWS_in 17 rfl rfl
set_option maxRecDepth 100000 in
theorem w_s18 : (Jvm.Cond.selects "WireField$Pen" ({ cls := "WireField$Pen", name := "rowAt", desc := "(II)I" } : Jvm.MethodName) ({ cls := "WireField$Pen", name := "rowAt", desc := "(II)I" } : Jvm.MethodName)) ∈ jWS := jWS_in 18 rfl rfl
set_option maxRecDepth 100000 in
theorem w_s19 : (Jvm.Cond.selects "WireField$Pen" ({ cls := "WireField$Pen", name := "mark", desc := "(II)V" } : Jvm.MethodName) ({ cls := "WireField$Pen", name := "mark", desc := "(II)V" } : Jvm.MethodName)) ∈ jWS := jWS_in 19 rfl rfl
set_option maxRecDepth 100000 in
theorem w_s20 : (Jvm.Cond.selects "WireField$Pen" ({ cls := "WireField$Pen", name := "putElectron", desc := "()V" } : Jvm.MethodName) ({ cls := "WireField$Pen", name := "putElectron", desc := "()V" } : Jvm.MethodName)) ∈ jWS := jWS_in 20 rfl rfl
set_option maxRecDepth 100000 in
theorem w_s21 : (Jvm.Cond.selects "WireField$Pen" ({ cls := "WireField$Pen", name := "drawDiode", desc := "()Z" } : Jvm.MethodName) ({ cls := "WireField$Pen", name := "drawDiode", desc := "()Z" } : Jvm.MethodName)) ∈ jWS := jWS_in 21 rfl rfl
set_option maxRecDepth 100000 in
theorem w_s22 : (Jvm.Cond.selects "WireField$Pen" ({ cls := "WireField$Pen", name := "hasCell", desc := "(II)Z" } : Jvm.MethodName) ({ cls := "WireField$Pen", name := "hasCell", desc := "(II)Z" } : Jvm.MethodName)) ∈ jWS := jWS_in 22 rfl rfl
set_option maxRecDepth 100000 in
theorem w_s23 : (Jvm.Cond.selects "WireFieldModel" ({ cls := "WireFieldModel", name := "generation", desc := "()V" } : Jvm.MethodName) ({ cls := "WireFieldModel", name := "generation", desc := "()V" } : Jvm.MethodName)) ∈ jWS := jWS_in 23 rfl rfl
set_option maxRecDepth 100000 in
theorem w_s24 : (Jvm.Cond.selects "WireFieldModel" ({ cls := "WireFieldModel", name := "keep", desc := "()V" } : Jvm.MethodName) ({ cls := "WireFieldModel", name := "keep", desc := "()V" } : Jvm.MethodName)) ∈ jWS := jWS_in 24 rfl rfl
set_option maxRecDepth 100000 in
theorem w_s25 : (Jvm.Cond.selects "WireFieldModel" ({ cls := "WireFieldModel", name := "lit", desc := "(I)I" } : Jvm.MethodName) ({ cls := "WireFieldModel", name := "lit", desc := "(I)I" } : Jvm.MethodName)) ∈ jWS := jWS_in 25 rfl rfl
set_option maxRecDepth 100000 in
theorem w_s26 : (Jvm.Cond.selects "WireFieldModel" ({ cls := "WireFieldModel", name := "headsIn", desc := "(I)I" } : Jvm.MethodName) ({ cls := "WireFieldModel", name := "headsIn", desc := "(I)I" } : Jvm.MethodName)) ∈ jWS := jWS_in 26 rfl rfl
set_option maxRecDepth 100000 in
theorem w_s27 : (Jvm.Cond.selects "WireFieldModel" ({ cls := "WireFieldModel", name := "count", desc := "(I)I" } : Jvm.MethodName) ({ cls := "WireFieldModel", name := "count", desc := "(I)I" } : Jvm.MethodName)) ∈ jWS := jWS_in 27 rfl rfl
set_option maxRecDepth 100000 in
theorem w_s28 : (Jvm.Cond.selects "WireFieldModel" ({ cls := "WireFieldModel", name := "reads", desc := "()Z" } : Jvm.MethodName) ({ cls := "WireFieldModel", name := "reads", desc := "()Z" } : Jvm.MethodName)) ∈ jWS := jWS_in 28 rfl rfl
set_option maxRecDepth 100000 in
theorem w_s29 : (Jvm.Cond.selects "WireFieldModel" ({ cls := "WireFieldModel", name := "sign", desc := "(II)I" } : Jvm.MethodName) ({ cls := "WireFieldModel", name := "sign", desc := "(II)I" } : Jvm.MethodName)) ∈ jWS := jWS_in 29 rfl rfl
set_option maxRecDepth 100000 in
theorem w_s30 : (Jvm.Cond.selects "WireFieldModel" ({ cls := "WireFieldModel", name := "complete", desc := "()Z" } : Jvm.MethodName) ({ cls := "WireFieldModel", name := "complete", desc := "()Z" } : Jvm.MethodName)) ∈ jWS := jWS_in 30 rfl rfl
set_option maxRecDepth 100000 in
theorem w_s31 : (Jvm.Cond.selects "WireFieldModel" ({ cls := "WireFieldModel", name := "goThrough", desc := "()V" } : Jvm.MethodName) ({ cls := "WireFieldModel", name := "goThrough", desc := "()V" } : Jvm.MethodName)) ∈ jWS := jWS_in 31 rfl rfl
set_option maxRecDepth 100000 in
theorem w_s32 : (Jvm.Cond.selects "WireFieldModel" ({ cls := "WireFieldModel", name := "comeBack", desc := "()V" } : Jvm.MethodName) ({ cls := "WireFieldModel", name := "comeBack", desc := "()V" } : Jvm.MethodName)) ∈ jWS := jWS_in 32 rfl rfl
set_option maxRecDepth 100000 in
theorem w_s33 : (Jvm.Cond.selects "WireFieldModel" ({ cls := "WireFieldModel", name := "again", desc := "()V" } : Jvm.MethodName) ({ cls := "WireFieldModel", name := "again", desc := "()V" } : Jvm.MethodName)) ∈ jWS := jWS_in 33 rfl rfl
set_option maxRecDepth 100000 in
theorem w_s34 : (Jvm.Cond.selects "WireFieldModel" ({ cls := "WireFieldModel", name := "countOne", desc := "()V" } : Jvm.MethodName) ({ cls := "WireFieldModel", name := "countOne", desc := "()V" } : Jvm.MethodName)) ∈ jWS := jWS_in 34 rfl rfl
set_option maxRecDepth 100000 in
theorem w_s35 : (Jvm.Cond.selects "WireFieldModel" ({ cls := "WireFieldModel", name := "open", desc := "(IIII)V" } : Jvm.MethodName) ({ cls := "WireFieldModel", name := "open", desc := "(IIII)V" } : Jvm.MethodName)) ∈ jWS := jWS_in 35 rfl rfl
set_option maxRecDepth 100000 in
theorem w_s36 : (Jvm.Cond.selects "WireFieldModel" ({ cls := "WireFieldModel", name := "behind", desc := "(II)I" } : Jvm.MethodName) ({ cls := "WireFieldModel", name := "behind", desc := "(II)I" } : Jvm.MethodName)) ∈ jWS := jWS_in 36 rfl rfl
set_option maxRecDepth 100000 in
theorem w_s37 : (Jvm.Cond.selects "WireFieldModel" ({ cls := "WireFieldModel", name := "obey", desc := "(I)V" } : Jvm.MethodName) ({ cls := "WireFieldModel", name := "obey", desc := "(I)V" } : Jvm.MethodName)) ∈ jWS := jWS_in 37 rfl rfl
set_option maxRecDepth 100000 in
theorem w_s38 : (Jvm.Cond.selects "WireFieldModel" ({ cls := "WireFieldModel", name := "step", desc := "(IZZ)V" } : Jvm.MethodName) ({ cls := "WireFieldModel", name := "step", desc := "(IZZ)V" } : Jvm.MethodName)) ∈ jWS := jWS_in 38 rfl rfl
set_option maxRecDepth 100000 in
theorem w_s39 : (Jvm.Cond.selects "WireFieldModel" ({ cls := "WireFieldModel", name := "put", desc := "(III)V" } : Jvm.MethodName) ({ cls := "WireFieldModel", name := "put", desc := "(III)V" } : Jvm.MethodName)) ∈ jWS := jWS_in 39 rfl rfl
set_option maxRecDepth 100000 in
theorem w_s40 : (Jvm.Cond.selects "WireFieldModel" ({ cls := "WireFieldModel", name := "change", desc := "(III)V" } : Jvm.MethodName) ({ cls := "WireFieldModel", name := "change", desc := "(III)V" } : Jvm.MethodName)) ∈ jWS := jWS_in 40 rfl rfl
end
section
theorem u_X0 : ∀ w ∈ u_ws RX0 TX0 3, w ∈ jWS := by
  intro w hw
  obtain ⟨k, hk, rfl⟩ := List.mem_map.mp hw
  have hk := List.mem_range.mp hk
  match k, hk with
  | 0, _ => exact w_40
  | 1, _ => exact w_42
  | 2, _ => exact w_44
theorem u_X1 : ∀ w ∈ u_ws RX1 TX1 2, w ∈ jWS := by
  intro w hw
  obtain ⟨k, hk, rfl⟩ := List.mem_map.mp hw
  have hk := List.mem_range.mp hk
  match k, hk with
  | 0, _ => exact w_161
  | 1, _ => exact w_163
theorem u_X2 : ∀ w ∈ u_ws RX2 TX2 6, w ∈ jWS := by
  intro w hw
  obtain ⟨k, hk, rfl⟩ := List.mem_map.mp hw
  have hk := List.mem_range.mp hk
  match k, hk with
  | 0, _ => exact w_68
  | 1, _ => exact w_70
  | 2, _ => exact w_72
  | 3, _ => exact w_74
  | 4, _ => exact w_76
  | 5, _ => exact w_78
theorem u_X3 : ∀ w ∈ u_ws RX3 TX3 5, w ∈ jWS := by
  intro w hw
  obtain ⟨k, hk, rfl⟩ := List.mem_map.mp hw
  have hk := List.mem_range.mp hk
  match k, hk with
  | 0, _ => exact w_139
  | 1, _ => exact w_141
  | 2, _ => exact w_143
  | 3, _ => exact w_145
  | 4, _ => exact w_147
theorem u_X4 : ∀ w ∈ u_ws RX4 TX4 5, w ∈ jWS := by
  intro w hw
  obtain ⟨k, hk, rfl⟩ := List.mem_map.mp hw
  have hk := List.mem_range.mp hk
  match k, hk with
  | 0, _ => exact w_114
  | 1, _ => exact w_116
  | 2, _ => exact w_118
  | 3, _ => exact w_120
  | 4, _ => exact w_122
theorem u_X5 : ∀ w ∈ u_ws RX5 TX5 2, w ∈ jWS := by
  intro w hw
  obtain ⟨k, hk, rfl⟩ := List.mem_map.mp hw
  have hk := List.mem_range.mp hk
  match k, hk with
  | 0, _ => exact w_90
  | 1, _ => exact w_92
theorem u_X6 : ∀ w ∈ u_ws RX6 TX6 13, w ∈ jWS := by
  intro w hw
  obtain ⟨k, hk, rfl⟩ := List.mem_map.mp hw
  have hk := List.mem_range.mp hk
  match k, hk with
  | 0, _ => exact w_179
  | 1, _ => exact w_181
  | 2, _ => exact w_183
  | 3, _ => exact w_185
  | 4, _ => exact w_187
  | 5, _ => exact w_189
  | 6, _ => exact w_191
  | 7, _ => exact w_193
  | 8, _ => exact w_195
  | 9, _ => exact w_197
  | 10, _ => exact w_199
  | 11, _ => exact w_201
  | 12, _ => exact w_203
theorem u_X7 : ∀ w ∈ u_ws RX7 TX7 43, w ∈ jWS := by
  intro w hw
  obtain ⟨k, hk, rfl⟩ := List.mem_map.mp hw
  have hk := List.mem_range.mp hk
  match k, hk with
  | 0, _ => exact w_741
  | 1, _ => exact w_743
  | 2, _ => exact w_745
  | 3, _ => exact w_747
  | 4, _ => exact w_749
  | 5, _ => exact w_751
  | 6, _ => exact w_753
  | 7, _ => exact w_755
  | 8, _ => exact w_757
  | 9, _ => exact w_759
  | 10, _ => exact w_761
  | 11, _ => exact w_763
  | 12, _ => exact w_765
  | 13, _ => exact w_767
  | 14, _ => exact w_769
  | 15, _ => exact w_771
  | 16, _ => exact w_773
  | 17, _ => exact w_775
  | 18, _ => exact w_777
  | 19, _ => exact w_779
  | 20, _ => exact w_781
  | 21, _ => exact w_783
  | 22, _ => exact w_785
  | 23, _ => exact w_787
  | 24, _ => exact w_789
  | 25, _ => exact w_791
  | 26, _ => exact w_793
  | 27, _ => exact w_795
  | 28, _ => exact w_797
  | 29, _ => exact w_799
  | 30, _ => exact w_801
  | 31, _ => exact w_803
  | 32, _ => exact w_805
  | 33, _ => exact w_807
  | 34, _ => exact w_809
  | 35, _ => exact w_811
  | 36, _ => exact w_813
  | 37, _ => exact w_815
  | 38, _ => exact w_817
  | 39, _ => exact w_819
  | 40, _ => exact w_821
  | 41, _ => exact w_823
  | 42, _ => exact w_825
  | k + 43, h => exact absurd h (by omega)
section FF
variable {l : Launch} {b : Nat} {D : va_G} {ta : Nat → ClassId} {Γ : jG} {ex : Prop} {cc : ByteArray} {ret : Option FieldType} {nL cs ss pc : Nat} {rm : Room} {σ : List va_E} {L : List (Nat × Value)} {rest : List Value}
theorem pc_WF_12 (B : jB l b D ta Γ "WireField" cc ret nL rm) (hme : Γ.2.2.2.2.2.2.2.1.name = "<init>") {q : Nat} {fs : List Value} {v : Value} (hq : σ[q]? = some (.inr (6, fs))) (hn : narrow (tyX6 0) v = v) (hfit : fits (tyX6 0) v = true) (hl : 0 < fs.length) (hd : decode cc pc = .ok (.putfield 12, 3)) (kk : jW l b D Γ ex cs ss nL (σ.set q (.inr (6, fs.set 0 v))) L (pc + 3) rest) : jW l b D Γ ex cs ss nL σ L pc (v :: .ref (b + q) :: rest) := j_putF B hme rfl u_X6 tyX6 tyX6_ok nmX6 0 (by decide) rfl w_166 rfl rfl hq hn hfit hl hd kk
theorem pc_WF_16 (B : jB l b D ta Γ "WireField" cc ret nL rm) (hme : Γ.2.2.2.2.2.2.2.1.name = "<init>") {q : Nat} {fs : List Value} {v : Value} (hq : σ[q]? = some (.inr (6, fs))) (hn : narrow (tyX6 1) v = v) (hfit : fits (tyX6 1) v = true) (hl : 1 < fs.length) (hd : decode cc pc = .ok (.putfield 16, 3)) (kk : jW l b D Γ ex cs ss nL (σ.set q (.inr (6, fs.set 1 v))) L (pc + 3) rest) : jW l b D Γ ex cs ss nL σ L pc (v :: .ref (b + q) :: rest) := j_putF B hme rfl u_X6 tyX6 tyX6_ok nmX6 1 (by decide) rfl w_167 rfl rfl hq hn hfit hl hd kk
theorem pc_WF_22 (B : jB l b D ta Γ "WireField" cc ret nL rm) (hme : Γ.2.2.2.2.2.2.2.1.name = "<init>") {q : Nat} {fs : List Value} {v : Value} (hq : σ[q]? = some (.inr (6, fs))) (hn : narrow (tyX6 2) v = v) (hfit : fits (tyX6 2) v = true) (hl : 2 < fs.length) (hd : decode cc pc = .ok (.putfield 22, 3)) (kk : jW l b D Γ ex cs ss nL (σ.set q (.inr (6, fs.set 2 v))) L (pc + 3) rest) : jW l b D Γ ex cs ss nL σ L pc (v :: .ref (b + q) :: rest) := j_putF B hme rfl u_X6 tyX6 tyX6_ok nmX6 2 (by decide) rfl w_168 rfl rfl hq hn hfit hl hd kk
theorem pc_WF_29 (B : jB l b D ta Γ "WireField" cc ret nL rm) (hme : Γ.2.2.2.2.2.2.2.1.name = "<init>") {q : Nat} {fs : List Value} {v : Value} (hq : σ[q]? = some (.inr (6, fs))) (hn : narrow (tyX6 3) v = v) (hfit : fits (tyX6 3) v = true) (hl : 3 < fs.length) (hd : decode cc pc = .ok (.putfield 29, 3)) (kk : jW l b D Γ ex cs ss nL (σ.set q (.inr (6, fs.set 3 v))) L (pc + 3) rest) : jW l b D Γ ex cs ss nL σ L pc (v :: .ref (b + q) :: rest) := j_putF B hme rfl u_X6 tyX6 tyX6_ok nmX6 3 (by decide) rfl w_169 rfl rfl hq hn hfit hl hd kk
theorem pc_WF_33 (B : jB l b D ta Γ "WireField" cc ret nL rm) (hme : Γ.2.2.2.2.2.2.2.1.name = "<init>") {q : Nat} {fs : List Value} {v : Value} (hq : σ[q]? = some (.inr (6, fs))) (hn : narrow (tyX6 4) v = v) (hfit : fits (tyX6 4) v = true) (hl : 4 < fs.length) (hd : decode cc pc = .ok (.putfield 33, 3)) (kk : jW l b D Γ ex cs ss nL (σ.set q (.inr (6, fs.set 4 v))) L (pc + 3) rest) : jW l b D Γ ex cs ss nL σ L pc (v :: .ref (b + q) :: rest) := j_putF B hme rfl u_X6 tyX6 tyX6_ok nmX6 4 (by decide) rfl w_170 rfl rfl hq hn hfit hl hd kk
theorem pc_WF_37 (B : jB l b D ta Γ "WireField" cc ret nL rm) (hme : Γ.2.2.2.2.2.2.2.1.name = "<init>") {q : Nat} {fs : List Value} {v : Value} (hq : σ[q]? = some (.inr (6, fs))) (hn : narrow (tyX6 5) v = v) (hfit : fits (tyX6 5) v = true) (hl : 5 < fs.length) (hd : decode cc pc = .ok (.putfield 37, 3)) (kk : jW l b D Γ ex cs ss nL (σ.set q (.inr (6, fs.set 5 v))) L (pc + 3) rest) : jW l b D Γ ex cs ss nL σ L pc (v :: .ref (b + q) :: rest) := j_putF B hme rfl u_X6 tyX6 tyX6_ok nmX6 5 (by decide) rfl w_171 rfl rfl hq hn hfit hl hd kk
theorem pc_WF_43 (B : jB l b D ta Γ "WireField" cc ret nL rm) (hme : Γ.2.2.2.2.2.2.2.1.name = "<init>") {q : Nat} {fs : List Value} {v : Value} (hq : σ[q]? = some (.inr (6, fs))) (hn : narrow (tyX6 6) v = v) (hfit : fits (tyX6 6) v = true) (hl : 6 < fs.length) (hd : decode cc pc = .ok (.putfield 43, 3)) (kk : jW l b D Γ ex cs ss nL (σ.set q (.inr (6, fs.set 6 v))) L (pc + 3) rest) : jW l b D Γ ex cs ss nL σ L pc (v :: .ref (b + q) :: rest) := j_putF B hme rfl u_X6 tyX6 tyX6_ok nmX6 6 (by decide) rfl w_172 rfl rfl hq hn hfit hl hd kk
theorem pc_WF_47 (B : jB l b D ta Γ "WireField" cc ret nL rm) {q : Nat} {fs : List Value} {v : Value} (hq : σ[q]? = some (.inr (6, fs))) (hn : narrow (tyX6 7) v = v) (hfit : fits (tyX6 7) v = true) (hl : 7 < fs.length) (hd : decode cc pc = .ok (.putfield 47, 3)) (kk : jW l b D Γ ex cs ss nL (σ.set q (.inr (6, fs.set 7 v))) L (pc + 3) rest) : jW l b D Γ ex cs ss nL σ L pc (v :: .ref (b + q) :: rest) := j_putX B rfl u_X6 tyX6 tyX6_ok nmX6 7 (by decide) rfl w_173 rfl hq hn hfit hl hd kk
theorem pc_WF_53 (B : jB l b D ta Γ "WireField" cc ret nL rm) (hme : Γ.2.2.2.2.2.2.2.1.name = "<init>") {q : Nat} {fs : List Value} {v : Value} (hq : σ[q]? = some (.inr (6, fs))) (hn : narrow (tyX6 8) v = v) (hfit : fits (tyX6 8) v = true) (hl : 8 < fs.length) (hd : decode cc pc = .ok (.putfield 53, 3)) (kk : jW l b D Γ ex cs ss nL (σ.set q (.inr (6, fs.set 8 v))) L (pc + 3) rest) : jW l b D Γ ex cs ss nL σ L pc (v :: .ref (b + q) :: rest) := j_putF B hme rfl u_X6 tyX6 tyX6_ok nmX6 8 (by decide) rfl w_174 rfl rfl hq hn hfit hl hd kk
theorem pc_WF_57 (B : jB l b D ta Γ "WireField" cc ret nL rm) {q : Nat} {fs : List Value} {v : Value} (hq : σ[q]? = some (.inr (6, fs))) (hn : narrow (tyX6 9) v = v) (hfit : fits (tyX6 9) v = true) (hl : 9 < fs.length) (hd : decode cc pc = .ok (.putfield 57, 3)) (kk : jW l b D Γ ex cs ss nL (σ.set q (.inr (6, fs.set 9 v))) L (pc + 3) rest) : jW l b D Γ ex cs ss nL σ L pc (v :: .ref (b + q) :: rest) := j_putX B rfl u_X6 tyX6 tyX6_ok nmX6 9 (by decide) rfl w_175 rfl hq hn hfit hl hd kk
theorem pc_WF_62 (B : jB l b D ta Γ "WireField" cc ret nL rm) (hme : Γ.2.2.2.2.2.2.2.1.name = "<init>") {q : Nat} {fs : List Value} {v : Value} (hq : σ[q]? = some (.inr (6, fs))) (hn : narrow (tyX6 10) v = v) (hfit : fits (tyX6 10) v = true) (hl : 10 < fs.length) (hd : decode cc pc = .ok (.putfield 62, 3)) (kk : jW l b D Γ ex cs ss nL (σ.set q (.inr (6, fs.set 10 v))) L (pc + 3) rest) : jW l b D Γ ex cs ss nL σ L pc (v :: .ref (b + q) :: rest) := j_putF B hme rfl u_X6 tyX6 tyX6_ok nmX6 10 (by decide) rfl w_176 rfl rfl hq hn hfit hl hd kk
theorem pc_WF_66 (B : jB l b D ta Γ "WireField" cc ret nL rm) {q : Nat} {fs : List Value} {v : Value} (hq : σ[q]? = some (.inr (6, fs))) (hn : narrow (tyX6 11) v = v) (hfit : fits (tyX6 11) v = true) (hl : 11 < fs.length) (hd : decode cc pc = .ok (.putfield 66, 3)) (kk : jW l b D Γ ex cs ss nL (σ.set q (.inr (6, fs.set 11 v))) L (pc + 3) rest) : jW l b D Γ ex cs ss nL σ L pc (v :: .ref (b + q) :: rest) := j_putX B rfl u_X6 tyX6 tyX6_ok nmX6 11 (by decide) rfl w_177 rfl hq hn hfit hl hd kk
theorem pc_WF_69 (B : jB l b D ta Γ "WireField" cc ret nL rm) {q : Nat} {fs : List Value} {v : Value} (hq : σ[q]? = some (.inr (6, fs))) (hn : narrow (tyX6 12) v = v) (hfit : fits (tyX6 12) v = true) (hl : 12 < fs.length) (hd : decode cc pc = .ok (.putfield 69, 3)) (kk : jW l b D Γ ex cs ss nL (σ.set q (.inr (6, fs.set 12 v))) L (pc + 3) rest) : jW l b D Γ ex cs ss nL σ L pc (v :: .ref (b + q) :: rest) := j_putX B rfl u_X6 tyX6 tyX6_ok nmX6 12 (by decide) rfl w_178 rfl hq hn hfit hl hd kk
theorem gf_WF_33 (B : jB l b D ta Γ "WireField" cc ret nL rm) {q : Nat} {fs : List Value} {v : Value} (hq : σ[q]? = some (.inr (6, fs))) (hv : fs[4]? = some v) (hd : decode cc pc = .ok (.getfield 33, 3)) (kk : jW l b D Γ ex cs ss nL σ L (pc + 3) (v :: rest)) : jW l b D Γ ex cs ss nL σ L pc (.ref (b + q) :: rest) := j_get B rfl u_X6 4 (by decide) rfl w_170 hq hv hd kk
theorem gf_WF_43 (B : jB l b D ta Γ "WireField" cc ret nL rm) {q : Nat} {fs : List Value} {v : Value} (hq : σ[q]? = some (.inr (6, fs))) (hv : fs[6]? = some v) (hd : decode cc pc = .ok (.getfield 43, 3)) (kk : jW l b D Γ ex cs ss nL σ L (pc + 3) (v :: rest)) : jW l b D Γ ex cs ss nL σ L pc (.ref (b + q) :: rest) := j_get B rfl u_X6 6 (by decide) rfl w_172 hq hv hd kk
theorem gf_WF_53 (B : jB l b D ta Γ "WireField" cc ret nL rm) {q : Nat} {fs : List Value} {v : Value} (hq : σ[q]? = some (.inr (6, fs))) (hv : fs[8]? = some v) (hd : decode cc pc = .ok (.getfield 53, 3)) (kk : jW l b D Γ ex cs ss nL σ L (pc + 3) (v :: rest)) : jW l b D Γ ex cs ss nL σ L pc (.ref (b + q) :: rest) := j_get B rfl u_X6 8 (by decide) rfl w_174 hq hv hd kk
theorem gf_WF_62 (B : jB l b D ta Γ "WireField" cc ret nL rm) {q : Nat} {fs : List Value} {v : Value} (hq : σ[q]? = some (.inr (6, fs))) (hv : fs[10]? = some v) (hd : decode cc pc = .ok (.getfield 62, 3)) (kk : jW l b D Γ ex cs ss nL σ L (pc + 3) (v :: rest)) : jW l b D Γ ex cs ss nL σ L pc (.ref (b + q) :: rest) := j_get B rfl u_X6 10 (by decide) rfl w_176 hq hv hd kk
theorem gf_WF_29 (B : jB l b D ta Γ "WireField" cc ret nL rm) {q : Nat} {fs : List Value} {v : Value} (hq : σ[q]? = some (.inr (6, fs))) (hv : fs[3]? = some v) (hd : decode cc pc = .ok (.getfield 29, 3)) (kk : jW l b D Γ ex cs ss nL σ L (pc + 3) (v :: rest)) : jW l b D Γ ex cs ss nL σ L pc (.ref (b + q) :: rest) := j_get B rfl u_X6 3 (by decide) rfl w_169 hq hv hd kk
theorem gf_WF_22 (B : jB l b D ta Γ "WireField" cc ret nL rm) {q : Nat} {fs : List Value} {v : Value} (hq : σ[q]? = some (.inr (6, fs))) (hv : fs[2]? = some v) (hd : decode cc pc = .ok (.getfield 22, 3)) (kk : jW l b D Γ ex cs ss nL σ L (pc + 3) (v :: rest)) : jW l b D Γ ex cs ss nL σ L pc (.ref (b + q) :: rest) := j_get B rfl u_X6 2 (by decide) rfl w_168 hq hv hd kk
theorem gf_WF_12 (B : jB l b D ta Γ "WireField" cc ret nL rm) {q : Nat} {fs : List Value} {v : Value} (hq : σ[q]? = some (.inr (6, fs))) (hv : fs[0]? = some v) (hd : decode cc pc = .ok (.getfield 12, 3)) (kk : jW l b D Γ ex cs ss nL σ L (pc + 3) (v :: rest)) : jW l b D Γ ex cs ss nL σ L pc (.ref (b + q) :: rest) := j_get B rfl u_X6 0 (by decide) rfl w_166 hq hv hd kk
theorem gf_WF_107 (B : jB l b D ta Γ "WireField" cc ret nL rm) {q : Nat} {fs : List Value} {v : Value} (hq : σ[q]? = some (.inr (5, fs))) (hv : fs[1]? = some v) (hd : decode cc pc = .ok (.getfield 107, 3)) (kk : jW l b D Γ ex cs ss nL σ L (pc + 3) (v :: rest)) : jW l b D Γ ex cs ss nL σ L pc (.ref (b + q) :: rest) := j_getN B rfl u_X5 1 (by decide) rfl w_89 hq hv hd kk
theorem gf_WF_119 (B : jB l b D ta Γ "WireField" cc ret nL rm) {q : Nat} {fs : List Value} {v : Value} (hq : σ[q]? = some (.inr (2, fs))) (hv : fs[0]? = some v) (hd : decode cc pc = .ok (.getfield 119, 3)) (kk : jW l b D Γ ex cs ss nL σ L (pc + 3) (v :: rest)) : jW l b D Γ ex cs ss nL σ L pc (.ref (b + q) :: rest) := j_getN B rfl u_X2 0 (by decide) rfl w_57 hq hv hd kk
theorem gf_WF_132 (B : jB l b D ta Γ "WireField" cc ret nL rm) {q : Nat} {fs : List Value} {v : Value} (hq : σ[q]? = some (.inr (2, fs))) (hv : fs[5]? = some v) (hd : decode cc pc = .ok (.getfield 132, 3)) (kk : jW l b D Γ ex cs ss nL σ L (pc + 3) (v :: rest)) : jW l b D Γ ex cs ss nL σ L pc (.ref (b + q) :: rest) := j_getN B rfl u_X2 5 (by decide) rfl w_67 hq hv hd kk
theorem gf_WF_37 (B : jB l b D ta Γ "WireField" cc ret nL rm) {q : Nat} {fs : List Value} {v : Value} (hq : σ[q]? = some (.inr (6, fs))) (hv : fs[5]? = some v) (hd : decode cc pc = .ok (.getfield 37, 3)) (kk : jW l b D Γ ex cs ss nL σ L (pc + 3) (v :: rest)) : jW l b D Γ ex cs ss nL σ L pc (.ref (b + q) :: rest) := j_get B rfl u_X6 5 (by decide) rfl w_171 hq hv hd kk
theorem gf_WF_16 (B : jB l b D ta Γ "WireField" cc ret nL rm) {q : Nat} {fs : List Value} {v : Value} (hq : σ[q]? = some (.inr (6, fs))) (hv : fs[1]? = some v) (hd : decode cc pc = .ok (.getfield 16, 3)) (kk : jW l b D Γ ex cs ss nL σ L (pc + 3) (v :: rest)) : jW l b D Γ ex cs ss nL σ L pc (.ref (b + q) :: rest) := j_get B rfl u_X6 1 (by decide) rfl w_167 hq hv hd kk
theorem gf_WF_47 (B : jB l b D ta Γ "WireField" cc ret nL rm) {q : Nat} {fs : List Value} {v : Value} (hq : σ[q]? = some (.inr (6, fs))) (hv : fs[7]? = some v) (hd : decode cc pc = .ok (.getfield 47, 3)) (kk : jW l b D Γ ex cs ss nL σ L (pc + 3) (v :: rest)) : jW l b D Γ ex cs ss nL σ L pc (.ref (b + q) :: rest) := j_get B rfl u_X6 7 (by decide) rfl w_173 hq hv hd kk
theorem pf_WF_47 (B : jB l b D ta Γ "WireField" cc ret nL rm) (hex : ¬ ex) {q : Nat} {fs : List Value} {v : Value} (hq : σ[q]? = some (.inr (6, fs))) (hn : narrow (tyX6 7) v = v) (hfit : fits (tyX6 7) v = true) (hl : 7 < fs.length) (hd : decode cc pc = .ok (.putfield 47, 3)) (kk : jW l b D Γ ex cs ss nL (σ.set q (.inr (6, fs.set 7 v))) L (pc + 3) rest) : jW l b D Γ ex cs ss nL σ L pc (v :: .ref (b + q) :: rest) := j_put B hex rfl u_X6 tyX6 tyX6_ok nmX6 7 (by decide) rfl w_173 rfl hq hn hfit hl hd kk
theorem gf_WF_57 (B : jB l b D ta Γ "WireField" cc ret nL rm) {q : Nat} {fs : List Value} {v : Value} (hq : σ[q]? = some (.inr (6, fs))) (hv : fs[9]? = some v) (hd : decode cc pc = .ok (.getfield 57, 3)) (kk : jW l b D Γ ex cs ss nL σ L (pc + 3) (v :: rest)) : jW l b D Γ ex cs ss nL σ L pc (.ref (b + q) :: rest) := j_get B rfl u_X6 9 (by decide) rfl w_175 hq hv hd kk
theorem pf_WF_57 (B : jB l b D ta Γ "WireField" cc ret nL rm) (hex : ¬ ex) {q : Nat} {fs : List Value} {v : Value} (hq : σ[q]? = some (.inr (6, fs))) (hn : narrow (tyX6 9) v = v) (hfit : fits (tyX6 9) v = true) (hl : 9 < fs.length) (hd : decode cc pc = .ok (.putfield 57, 3)) (kk : jW l b D Γ ex cs ss nL (σ.set q (.inr (6, fs.set 9 v))) L (pc + 3) rest) : jW l b D Γ ex cs ss nL σ L pc (v :: .ref (b + q) :: rest) := j_put B hex rfl u_X6 tyX6 tyX6_ok nmX6 9 (by decide) rfl w_175 rfl hq hn hfit hl hd kk
theorem gf_WF_66 (B : jB l b D ta Γ "WireField" cc ret nL rm) {q : Nat} {fs : List Value} {v : Value} (hq : σ[q]? = some (.inr (6, fs))) (hv : fs[11]? = some v) (hd : decode cc pc = .ok (.getfield 66, 3)) (kk : jW l b D Γ ex cs ss nL σ L (pc + 3) (v :: rest)) : jW l b D Γ ex cs ss nL σ L pc (.ref (b + q) :: rest) := j_get B rfl u_X6 11 (by decide) rfl w_177 hq hv hd kk
theorem gf_WF_69 (B : jB l b D ta Γ "WireField" cc ret nL rm) {q : Nat} {fs : List Value} {v : Value} (hq : σ[q]? = some (.inr (6, fs))) (hv : fs[12]? = some v) (hd : decode cc pc = .ok (.getfield 69, 3)) (kk : jW l b D Γ ex cs ss nL σ L (pc + 3) (v :: rest)) : jW l b D Γ ex cs ss nL σ L pc (.ref (b + q) :: rest) := j_get B rfl u_X6 12 (by decide) rfl w_178 hq hv hd kk
theorem pf_WF_69 (B : jB l b D ta Γ "WireField" cc ret nL rm) (hex : ¬ ex) {q : Nat} {fs : List Value} {v : Value} (hq : σ[q]? = some (.inr (6, fs))) (hn : narrow (tyX6 12) v = v) (hfit : fits (tyX6 12) v = true) (hl : 12 < fs.length) (hd : decode cc pc = .ok (.putfield 69, 3)) (kk : jW l b D Γ ex cs ss nL (σ.set q (.inr (6, fs.set 12 v))) L (pc + 3) rest) : jW l b D Γ ex cs ss nL σ L pc (v :: .ref (b + q) :: rest) := j_put B hex rfl u_X6 tyX6 tyX6_ok nmX6 12 (by decide) rfl w_178 rfl hq hn hfit hl hd kk
theorem pf_WF_66 (B : jB l b D ta Γ "WireField" cc ret nL rm) (hex : ¬ ex) {q : Nat} {fs : List Value} {v : Value} (hq : σ[q]? = some (.inr (6, fs))) (hn : narrow (tyX6 11) v = v) (hfit : fits (tyX6 11) v = true) (hl : 11 < fs.length) (hd : decode cc pc = .ok (.putfield 66, 3)) (kk : jW l b D Γ ex cs ss nL (σ.set q (.inr (6, fs.set 11 v))) L (pc + 3) rest) : jW l b D Γ ex cs ss nL σ L pc (v :: .ref (b + q) :: rest) := j_put B hex rfl u_X6 tyX6 tyX6_ok nmX6 11 (by decide) rfl w_177 rfl hq hn hfit hl hd kk
theorem gf_WF_175 (B : jB l b D ta Γ "WireField" cc ret nL rm) {q : Nat} {fs : List Value} {v : Value} (hq : σ[q]? = some (.inr (1, fs))) (hv : fs[0]? = some v) (hd : decode cc pc = .ok (.getfield 175, 3)) (kk : jW l b D Γ ex cs ss nL σ L (pc + 3) (v :: rest)) : jW l b D Γ ex cs ss nL σ L pc (.ref (b + q) :: rest) := j_getN B rfl u_X1 0 (by decide) rfl w_158 hq hv hd kk
theorem gf_WF_178 (B : jB l b D ta Γ "WireField" cc ret nL rm) {q : Nat} {fs : List Value} {v : Value} (hq : σ[q]? = some (.inr (1, fs))) (hv : fs[1]? = some v) (hd : decode cc pc = .ok (.getfield 178, 3)) (kk : jW l b D Γ ex cs ss nL σ L (pc + 3) (v :: rest)) : jW l b D Γ ex cs ss nL σ L pc (.ref (b + q) :: rest) := j_getN B rfl u_X1 1 (by decide) rfl w_160 hq hv hd kk
theorem pf_WF_182 (B : jB l b D ta Γ "WireField" cc ret nL rm) (hex : ¬ ex) {q : Nat} {fs : List Value} {v : Value} (hq : σ[q]? = some (.inr (4, fs))) (hn : narrow (tyX4 4) v = v) (hfit : fits (tyX4 4) v = true) (hl : 4 < fs.length) (hd : decode cc pc = .ok (.putfield 182, 3)) (kk : jW l b D Γ ex cs ss nL (σ.set q (.inr (4, fs.set 4 v))) L (pc + 3) rest) : jW l b D Γ ex cs ss nL σ L pc (v :: .ref (b + q) :: rest) := j_putN B hex rfl u_X4 tyX4 tyX4_ok nmX4 4 (by decide) rfl w_113 rfl hq hn hfit hl hd kk
theorem gf_WF_191 (B : jB l b D ta Γ "WireField" cc ret nL rm) {q : Nat} {fs : List Value} {v : Value} (hq : σ[q]? = some (.inr (3, fs))) (hv : fs[2]? = some v) (hd : decode cc pc = .ok (.getfield 191, 3)) (kk : jW l b D Γ ex cs ss nL σ L (pc + 3) (v :: rest)) : jW l b D Γ ex cs ss nL σ L pc (.ref (b + q) :: rest) := j_getN B rfl u_X3 2 (by decide) rfl w_134 hq hv hd kk
theorem gf_WF_194 (B : jB l b D ta Γ "WireField" cc ret nL rm) {q : Nat} {fs : List Value} {v : Value} (hq : σ[q]? = some (.inr (3, fs))) (hv : fs[3]? = some v) (hd : decode cc pc = .ok (.getfield 194, 3)) (kk : jW l b D Γ ex cs ss nL σ L (pc + 3) (v :: rest)) : jW l b D Γ ex cs ss nL σ L pc (.ref (b + q) :: rest) := j_getN B rfl u_X3 3 (by decide) rfl w_136 hq hv hd kk
theorem gf_WF_197 (B : jB l b D ta Γ "WireField" cc ret nL rm) {q : Nat} {fs : List Value} {v : Value} (hq : σ[q]? = some (.inr (3, fs))) (hv : fs[4]? = some v) (hd : decode cc pc = .ok (.getfield 197, 3)) (kk : jW l b D Γ ex cs ss nL σ L (pc + 3) (v :: rest)) : jW l b D Γ ex cs ss nL σ L pc (.ref (b + q) :: rest) := j_getN B rfl u_X3 4 (by decide) rfl w_138 hq hv hd kk
theorem gf_WF_182 (B : jB l b D ta Γ "WireField" cc ret nL rm) {q : Nat} {fs : List Value} {v : Value} (hq : σ[q]? = some (.inr (4, fs))) (hv : fs[4]? = some v) (hd : decode cc pc = .ok (.getfield 182, 3)) (kk : jW l b D Γ ex cs ss nL σ L (pc + 3) (v :: rest)) : jW l b D Γ ex cs ss nL σ L pc (.ref (b + q) :: rest) := j_getN B rfl u_X4 4 (by decide) rfl w_113 hq hv hd kk
theorem gf_WF_261 (B : jB l b D ta Γ "WireField" cc ret nL rm) {q : Nat} {fs : List Value} {v : Value} (hq : σ[q]? = some (.inr (2, fs))) (hv : fs[1]? = some v) (hd : decode cc pc = .ok (.getfield 261, 3)) (kk : jW l b D Γ ex cs ss nL σ L (pc + 3) (v :: rest)) : jW l b D Γ ex cs ss nL σ L pc (.ref (b + q) :: rest) := j_getN B rfl u_X2 1 (by decide) rfl w_59 hq hv hd kk
theorem gf_WF_264 (B : jB l b D ta Γ "WireField" cc ret nL rm) {q : Nat} {fs : List Value} {v : Value} (hq : σ[q]? = some (.inr (2, fs))) (hv : fs[2]? = some v) (hd : decode cc pc = .ok (.getfield 264, 3)) (kk : jW l b D Γ ex cs ss nL σ L (pc + 3) (v :: rest)) : jW l b D Γ ex cs ss nL σ L pc (.ref (b + q) :: rest) := j_getN B rfl u_X2 2 (by decide) rfl w_61 hq hv hd kk
theorem gf_WF_267 (B : jB l b D ta Γ "WireField" cc ret nL rm) {q : Nat} {fs : List Value} {v : Value} (hq : σ[q]? = some (.inr (2, fs))) (hv : fs[3]? = some v) (hd : decode cc pc = .ok (.getfield 267, 3)) (kk : jW l b D Γ ex cs ss nL σ L (pc + 3) (v :: rest)) : jW l b D Γ ex cs ss nL σ L pc (.ref (b + q) :: rest) := j_getN B rfl u_X2 3 (by decide) rfl w_63 hq hv hd kk
theorem gf_WF_270 (B : jB l b D ta Γ "WireField" cc ret nL rm) {q : Nat} {fs : List Value} {v : Value} (hq : σ[q]? = some (.inr (2, fs))) (hv : fs[4]? = some v) (hd : decode cc pc = .ok (.getfield 270, 3)) (kk : jW l b D Γ ex cs ss nL σ L (pc + 3) (v :: rest)) : jW l b D Γ ex cs ss nL σ L pc (.ref (b + q) :: rest) := j_getN B rfl u_X2 4 (by decide) rfl w_65 hq hv hd kk
theorem pf_WF_261 (B : jB l b D ta Γ "WireField" cc ret nL rm) (hex : ¬ ex) {q : Nat} {fs : List Value} {v : Value} (hq : σ[q]? = some (.inr (2, fs))) (hn : narrow (tyX2 1) v = v) (hfit : fits (tyX2 1) v = true) (hl : 1 < fs.length) (hd : decode cc pc = .ok (.putfield 261, 3)) (kk : jW l b D Γ ex cs ss nL (σ.set q (.inr (2, fs.set 1 v))) L (pc + 3) rest) : jW l b D Γ ex cs ss nL σ L pc (v :: .ref (b + q) :: rest) := j_putN B hex rfl u_X2 tyX2 tyX2_ok nmX2 1 (by decide) rfl w_59 rfl hq hn hfit hl hd kk
theorem pf_WF_264 (B : jB l b D ta Γ "WireField" cc ret nL rm) (hex : ¬ ex) {q : Nat} {fs : List Value} {v : Value} (hq : σ[q]? = some (.inr (2, fs))) (hn : narrow (tyX2 2) v = v) (hfit : fits (tyX2 2) v = true) (hl : 2 < fs.length) (hd : decode cc pc = .ok (.putfield 264, 3)) (kk : jW l b D Γ ex cs ss nL (σ.set q (.inr (2, fs.set 2 v))) L (pc + 3) rest) : jW l b D Γ ex cs ss nL σ L pc (v :: .ref (b + q) :: rest) := j_putN B hex rfl u_X2 tyX2 tyX2_ok nmX2 2 (by decide) rfl w_61 rfl hq hn hfit hl hd kk
theorem pf_WF_267 (B : jB l b D ta Γ "WireField" cc ret nL rm) (hex : ¬ ex) {q : Nat} {fs : List Value} {v : Value} (hq : σ[q]? = some (.inr (2, fs))) (hn : narrow (tyX2 3) v = v) (hfit : fits (tyX2 3) v = true) (hl : 3 < fs.length) (hd : decode cc pc = .ok (.putfield 267, 3)) (kk : jW l b D Γ ex cs ss nL (σ.set q (.inr (2, fs.set 3 v))) L (pc + 3) rest) : jW l b D Γ ex cs ss nL σ L pc (v :: .ref (b + q) :: rest) := j_putN B hex rfl u_X2 tyX2 tyX2_ok nmX2 3 (by decide) rfl w_63 rfl hq hn hfit hl hd kk
theorem pf_WF_270 (B : jB l b D ta Γ "WireField" cc ret nL rm) (hex : ¬ ex) {q : Nat} {fs : List Value} {v : Value} (hq : σ[q]? = some (.inr (2, fs))) (hn : narrow (tyX2 4) v = v) (hfit : fits (tyX2 4) v = true) (hl : 4 < fs.length) (hd : decode cc pc = .ok (.putfield 270, 3)) (kk : jW l b D Γ ex cs ss nL (σ.set q (.inr (2, fs.set 4 v))) L (pc + 3) rest) : jW l b D Γ ex cs ss nL σ L pc (v :: .ref (b + q) :: rest) := j_putN B hex rfl u_X2 tyX2 tyX2_ok nmX2 4 (by decide) rfl w_65 rfl hq hn hfit hl hd kk
theorem pc_M_7 (B : jB l b D ta Γ "WireFieldModel" cc ret nL rm) (hme : Γ.2.2.2.2.2.2.2.1.name = "<init>") {q : Nat} {fs : List Value} {v : Value} (hq : σ[q]? = some (.inr (7, fs))) (hn : narrow (tyX7 1) v = v) (hfit : fits (tyX7 1) v = true) (hl : 1 < fs.length) (hd : decode cc pc = .ok (.putfield 7, 3)) (kk : jW l b D Γ ex cs ss nL (σ.set q (.inr (7, fs.set 1 v))) L (pc + 3) rest) : jW l b D Γ ex cs ss nL σ L pc (v :: .ref (b + q) :: rest) := j_putF B hme rfl u_X7 tyX7 tyX7_ok nmX7 1 (by decide) rfl w_699 rfl rfl hq hn hfit hl hd kk
theorem pc_M_13 (B : jB l b D ta Γ "WireFieldModel" cc ret nL rm) (hme : Γ.2.2.2.2.2.2.2.1.name = "<init>") {q : Nat} {fs : List Value} {v : Value} (hq : σ[q]? = some (.inr (7, fs))) (hn : narrow (tyX7 2) v = v) (hfit : fits (tyX7 2) v = true) (hl : 2 < fs.length) (hd : decode cc pc = .ok (.putfield 13, 3)) (kk : jW l b D Γ ex cs ss nL (σ.set q (.inr (7, fs.set 2 v))) L (pc + 3) rest) : jW l b D Γ ex cs ss nL σ L pc (v :: .ref (b + q) :: rest) := j_putF B hme rfl u_X7 tyX7 tyX7_ok nmX7 2 (by decide) rfl w_700 rfl rfl hq hn hfit hl hd kk
theorem pc_M_16 (B : jB l b D ta Γ "WireFieldModel" cc ret nL rm) (hme : Γ.2.2.2.2.2.2.2.1.name = "<init>") {q : Nat} {fs : List Value} {v : Value} (hq : σ[q]? = some (.inr (7, fs))) (hn : narrow (tyX7 3) v = v) (hfit : fits (tyX7 3) v = true) (hl : 3 < fs.length) (hd : decode cc pc = .ok (.putfield 16, 3)) (kk : jW l b D Γ ex cs ss nL (σ.set q (.inr (7, fs.set 3 v))) L (pc + 3) rest) : jW l b D Γ ex cs ss nL σ L pc (v :: .ref (b + q) :: rest) := j_putF B hme rfl u_X7 tyX7 tyX7_ok nmX7 3 (by decide) rfl w_701 rfl rfl hq hn hfit hl hd kk
theorem pc_M_19 (B : jB l b D ta Γ "WireFieldModel" cc ret nL rm) (hme : Γ.2.2.2.2.2.2.2.1.name = "<init>") {q : Nat} {fs : List Value} {v : Value} (hq : σ[q]? = some (.inr (7, fs))) (hn : narrow (tyX7 4) v = v) (hfit : fits (tyX7 4) v = true) (hl : 4 < fs.length) (hd : decode cc pc = .ok (.putfield 19, 3)) (kk : jW l b D Γ ex cs ss nL (σ.set q (.inr (7, fs.set 4 v))) L (pc + 3) rest) : jW l b D Γ ex cs ss nL σ L pc (v :: .ref (b + q) :: rest) := j_putF B hme rfl u_X7 tyX7 tyX7_ok nmX7 4 (by decide) rfl w_702 rfl rfl hq hn hfit hl hd kk
theorem pc_M_22 (B : jB l b D ta Γ "WireFieldModel" cc ret nL rm) (hme : Γ.2.2.2.2.2.2.2.1.name = "<init>") {q : Nat} {fs : List Value} {v : Value} (hq : σ[q]? = some (.inr (7, fs))) (hn : narrow (tyX7 5) v = v) (hfit : fits (tyX7 5) v = true) (hl : 5 < fs.length) (hd : decode cc pc = .ok (.putfield 22, 3)) (kk : jW l b D Γ ex cs ss nL (σ.set q (.inr (7, fs.set 5 v))) L (pc + 3) rest) : jW l b D Γ ex cs ss nL σ L pc (v :: .ref (b + q) :: rest) := j_putF B hme rfl u_X7 tyX7 tyX7_ok nmX7 5 (by decide) rfl w_703 rfl rfl hq hn hfit hl hd kk
theorem pc_M_25 (B : jB l b D ta Γ "WireFieldModel" cc ret nL rm) (hme : Γ.2.2.2.2.2.2.2.1.name = "<init>") {q : Nat} {fs : List Value} {v : Value} (hq : σ[q]? = some (.inr (7, fs))) (hn : narrow (tyX7 6) v = v) (hfit : fits (tyX7 6) v = true) (hl : 6 < fs.length) (hd : decode cc pc = .ok (.putfield 25, 3)) (kk : jW l b D Γ ex cs ss nL (σ.set q (.inr (7, fs.set 6 v))) L (pc + 3) rest) : jW l b D Γ ex cs ss nL σ L pc (v :: .ref (b + q) :: rest) := j_putF B hme rfl u_X7 tyX7 tyX7_ok nmX7 6 (by decide) rfl w_704 rfl rfl hq hn hfit hl hd kk
theorem pc_M_28 (B : jB l b D ta Γ "WireFieldModel" cc ret nL rm) (hme : Γ.2.2.2.2.2.2.2.1.name = "<init>") {q : Nat} {fs : List Value} {v : Value} (hq : σ[q]? = some (.inr (7, fs))) (hn : narrow (tyX7 11) v = v) (hfit : fits (tyX7 11) v = true) (hl : 11 < fs.length) (hd : decode cc pc = .ok (.putfield 28, 3)) (kk : jW l b D Γ ex cs ss nL (σ.set q (.inr (7, fs.set 11 v))) L (pc + 3) rest) : jW l b D Γ ex cs ss nL σ L pc (v :: .ref (b + q) :: rest) := j_putF B hme rfl u_X7 tyX7 tyX7_ok nmX7 11 (by decide) rfl w_709 rfl rfl hq hn hfit hl hd kk
theorem pc_M_31 (B : jB l b D ta Γ "WireFieldModel" cc ret nL rm) (hme : Γ.2.2.2.2.2.2.2.1.name = "<init>") {q : Nat} {fs : List Value} {v : Value} (hq : σ[q]? = some (.inr (7, fs))) (hn : narrow (tyX7 12) v = v) (hfit : fits (tyX7 12) v = true) (hl : 12 < fs.length) (hd : decode cc pc = .ok (.putfield 31, 3)) (kk : jW l b D Γ ex cs ss nL (σ.set q (.inr (7, fs.set 12 v))) L (pc + 3) rest) : jW l b D Γ ex cs ss nL σ L pc (v :: .ref (b + q) :: rest) := j_putF B hme rfl u_X7 tyX7 tyX7_ok nmX7 12 (by decide) rfl w_710 rfl rfl hq hn hfit hl hd kk
theorem pc_M_34 (B : jB l b D ta Γ "WireFieldModel" cc ret nL rm) (hme : Γ.2.2.2.2.2.2.2.1.name = "<init>") {q : Nat} {fs : List Value} {v : Value} (hq : σ[q]? = some (.inr (7, fs))) (hn : narrow (tyX7 13) v = v) (hfit : fits (tyX7 13) v = true) (hl : 13 < fs.length) (hd : decode cc pc = .ok (.putfield 34, 3)) (kk : jW l b D Γ ex cs ss nL (σ.set q (.inr (7, fs.set 13 v))) L (pc + 3) rest) : jW l b D Γ ex cs ss nL σ L pc (v :: .ref (b + q) :: rest) := j_putF B hme rfl u_X7 tyX7 tyX7_ok nmX7 13 (by decide) rfl w_711 rfl rfl hq hn hfit hl hd kk
theorem pc_M_38 (B : jB l b D ta Γ "WireFieldModel" cc ret nL rm) (hme : Γ.2.2.2.2.2.2.2.1.name = "<init>") {q : Nat} {fs : List Value} {v : Value} (hq : σ[q]? = some (.inr (7, fs))) (hn : narrow (tyX7 14) v = v) (hfit : fits (tyX7 14) v = true) (hl : 14 < fs.length) (hd : decode cc pc = .ok (.putfield 38, 3)) (kk : jW l b D Γ ex cs ss nL (σ.set q (.inr (7, fs.set 14 v))) L (pc + 3) rest) : jW l b D Γ ex cs ss nL σ L pc (v :: .ref (b + q) :: rest) := j_putF B hme rfl u_X7 tyX7 tyX7_ok nmX7 14 (by decide) rfl w_712 rfl rfl hq hn hfit hl hd kk
theorem pc_M_41 (B : jB l b D ta Γ "WireFieldModel" cc ret nL rm) (hme : Γ.2.2.2.2.2.2.2.1.name = "<init>") {q : Nat} {fs : List Value} {v : Value} (hq : σ[q]? = some (.inr (7, fs))) (hn : narrow (tyX7 15) v = v) (hfit : fits (tyX7 15) v = true) (hl : 15 < fs.length) (hd : decode cc pc = .ok (.putfield 41, 3)) (kk : jW l b D Γ ex cs ss nL (σ.set q (.inr (7, fs.set 15 v))) L (pc + 3) rest) : jW l b D Γ ex cs ss nL σ L pc (v :: .ref (b + q) :: rest) := j_putF B hme rfl u_X7 tyX7 tyX7_ok nmX7 15 (by decide) rfl w_713 rfl rfl hq hn hfit hl hd kk
theorem pc_M_44 (B : jB l b D ta Γ "WireFieldModel" cc ret nL rm) (hme : Γ.2.2.2.2.2.2.2.1.name = "<init>") {q : Nat} {fs : List Value} {v : Value} (hq : σ[q]? = some (.inr (7, fs))) (hn : narrow (tyX7 17) v = v) (hfit : fits (tyX7 17) v = true) (hl : 17 < fs.length) (hd : decode cc pc = .ok (.putfield 44, 3)) (kk : jW l b D Γ ex cs ss nL (σ.set q (.inr (7, fs.set 17 v))) L (pc + 3) rest) : jW l b D Γ ex cs ss nL σ L pc (v :: .ref (b + q) :: rest) := j_putF B hme rfl u_X7 tyX7 tyX7_ok nmX7 17 (by decide) rfl w_715 rfl rfl hq hn hfit hl hd kk
theorem pc_M_47 (B : jB l b D ta Γ "WireFieldModel" cc ret nL rm) (hme : Γ.2.2.2.2.2.2.2.1.name = "<init>") {q : Nat} {fs : List Value} {v : Value} (hq : σ[q]? = some (.inr (7, fs))) (hn : narrow (tyX7 18) v = v) (hfit : fits (tyX7 18) v = true) (hl : 18 < fs.length) (hd : decode cc pc = .ok (.putfield 47, 3)) (kk : jW l b D Γ ex cs ss nL (σ.set q (.inr (7, fs.set 18 v))) L (pc + 3) rest) : jW l b D Γ ex cs ss nL σ L pc (v :: .ref (b + q) :: rest) := j_putF B hme rfl u_X7 tyX7 tyX7_ok nmX7 18 (by decide) rfl w_716 rfl rfl hq hn hfit hl hd kk
theorem pc_M_50 (B : jB l b D ta Γ "WireFieldModel" cc ret nL rm) (hme : Γ.2.2.2.2.2.2.2.1.name = "<init>") {q : Nat} {fs : List Value} {v : Value} (hq : σ[q]? = some (.inr (7, fs))) (hn : narrow (tyX7 19) v = v) (hfit : fits (tyX7 19) v = true) (hl : 19 < fs.length) (hd : decode cc pc = .ok (.putfield 50, 3)) (kk : jW l b D Γ ex cs ss nL (σ.set q (.inr (7, fs.set 19 v))) L (pc + 3) rest) : jW l b D Γ ex cs ss nL σ L pc (v :: .ref (b + q) :: rest) := j_putF B hme rfl u_X7 tyX7 tyX7_ok nmX7 19 (by decide) rfl w_717 rfl rfl hq hn hfit hl hd kk
theorem pc_M_53 (B : jB l b D ta Γ "WireFieldModel" cc ret nL rm) (hme : Γ.2.2.2.2.2.2.2.1.name = "<init>") {q : Nat} {fs : List Value} {v : Value} (hq : σ[q]? = some (.inr (7, fs))) (hn : narrow (tyX7 20) v = v) (hfit : fits (tyX7 20) v = true) (hl : 20 < fs.length) (hd : decode cc pc = .ok (.putfield 53, 3)) (kk : jW l b D Γ ex cs ss nL (σ.set q (.inr (7, fs.set 20 v))) L (pc + 3) rest) : jW l b D Γ ex cs ss nL σ L pc (v :: .ref (b + q) :: rest) := j_putF B hme rfl u_X7 tyX7 tyX7_ok nmX7 20 (by decide) rfl w_718 rfl rfl hq hn hfit hl hd kk
theorem pc_M_56 (B : jB l b D ta Γ "WireFieldModel" cc ret nL rm) (hme : Γ.2.2.2.2.2.2.2.1.name = "<init>") {q : Nat} {fs : List Value} {v : Value} (hq : σ[q]? = some (.inr (7, fs))) (hn : narrow (tyX7 21) v = v) (hfit : fits (tyX7 21) v = true) (hl : 21 < fs.length) (hd : decode cc pc = .ok (.putfield 56, 3)) (kk : jW l b D Γ ex cs ss nL (σ.set q (.inr (7, fs.set 21 v))) L (pc + 3) rest) : jW l b D Γ ex cs ss nL σ L pc (v :: .ref (b + q) :: rest) := j_putF B hme rfl u_X7 tyX7 tyX7_ok nmX7 21 (by decide) rfl w_719 rfl rfl hq hn hfit hl hd kk
theorem pc_M_59 (B : jB l b D ta Γ "WireFieldModel" cc ret nL rm) (hme : Γ.2.2.2.2.2.2.2.1.name = "<init>") {q : Nat} {fs : List Value} {v : Value} (hq : σ[q]? = some (.inr (7, fs))) (hn : narrow (tyX7 22) v = v) (hfit : fits (tyX7 22) v = true) (hl : 22 < fs.length) (hd : decode cc pc = .ok (.putfield 59, 3)) (kk : jW l b D Γ ex cs ss nL (σ.set q (.inr (7, fs.set 22 v))) L (pc + 3) rest) : jW l b D Γ ex cs ss nL σ L pc (v :: .ref (b + q) :: rest) := j_putF B hme rfl u_X7 tyX7 tyX7_ok nmX7 22 (by decide) rfl w_720 rfl rfl hq hn hfit hl hd kk
theorem pc_M_62 (B : jB l b D ta Γ "WireFieldModel" cc ret nL rm) (hme : Γ.2.2.2.2.2.2.2.1.name = "<init>") {q : Nat} {fs : List Value} {v : Value} (hq : σ[q]? = some (.inr (7, fs))) (hn : narrow (tyX7 23) v = v) (hfit : fits (tyX7 23) v = true) (hl : 23 < fs.length) (hd : decode cc pc = .ok (.putfield 62, 3)) (kk : jW l b D Γ ex cs ss nL (σ.set q (.inr (7, fs.set 23 v))) L (pc + 3) rest) : jW l b D Γ ex cs ss nL σ L pc (v :: .ref (b + q) :: rest) := j_putF B hme rfl u_X7 tyX7 tyX7_ok nmX7 23 (by decide) rfl w_721 rfl rfl hq hn hfit hl hd kk
theorem pc_M_65 (B : jB l b D ta Γ "WireFieldModel" cc ret nL rm) (hme : Γ.2.2.2.2.2.2.2.1.name = "<init>") {q : Nat} {fs : List Value} {v : Value} (hq : σ[q]? = some (.inr (7, fs))) (hn : narrow (tyX7 24) v = v) (hfit : fits (tyX7 24) v = true) (hl : 24 < fs.length) (hd : decode cc pc = .ok (.putfield 65, 3)) (kk : jW l b D Γ ex cs ss nL (σ.set q (.inr (7, fs.set 24 v))) L (pc + 3) rest) : jW l b D Γ ex cs ss nL σ L pc (v :: .ref (b + q) :: rest) := j_putF B hme rfl u_X7 tyX7 tyX7_ok nmX7 24 (by decide) rfl w_722 rfl rfl hq hn hfit hl hd kk
theorem pc_M_68 (B : jB l b D ta Γ "WireFieldModel" cc ret nL rm) (hme : Γ.2.2.2.2.2.2.2.1.name = "<init>") {q : Nat} {fs : List Value} {v : Value} (hq : σ[q]? = some (.inr (7, fs))) (hn : narrow (tyX7 25) v = v) (hfit : fits (tyX7 25) v = true) (hl : 25 < fs.length) (hd : decode cc pc = .ok (.putfield 68, 3)) (kk : jW l b D Γ ex cs ss nL (σ.set q (.inr (7, fs.set 25 v))) L (pc + 3) rest) : jW l b D Γ ex cs ss nL σ L pc (v :: .ref (b + q) :: rest) := j_putF B hme rfl u_X7 tyX7 tyX7_ok nmX7 25 (by decide) rfl w_723 rfl rfl hq hn hfit hl hd kk
theorem pc_M_71 (B : jB l b D ta Γ "WireFieldModel" cc ret nL rm) (hme : Γ.2.2.2.2.2.2.2.1.name = "<init>") {q : Nat} {fs : List Value} {v : Value} (hq : σ[q]? = some (.inr (7, fs))) (hn : narrow (tyX7 26) v = v) (hfit : fits (tyX7 26) v = true) (hl : 26 < fs.length) (hd : decode cc pc = .ok (.putfield 71, 3)) (kk : jW l b D Γ ex cs ss nL (σ.set q (.inr (7, fs.set 26 v))) L (pc + 3) rest) : jW l b D Γ ex cs ss nL σ L pc (v :: .ref (b + q) :: rest) := j_putF B hme rfl u_X7 tyX7 tyX7_ok nmX7 26 (by decide) rfl w_724 rfl rfl hq hn hfit hl hd kk
theorem pc_M_74 (B : jB l b D ta Γ "WireFieldModel" cc ret nL rm) (hme : Γ.2.2.2.2.2.2.2.1.name = "<init>") {q : Nat} {fs : List Value} {v : Value} (hq : σ[q]? = some (.inr (7, fs))) (hn : narrow (tyX7 27) v = v) (hfit : fits (tyX7 27) v = true) (hl : 27 < fs.length) (hd : decode cc pc = .ok (.putfield 74, 3)) (kk : jW l b D Γ ex cs ss nL (σ.set q (.inr (7, fs.set 27 v))) L (pc + 3) rest) : jW l b D Γ ex cs ss nL σ L pc (v :: .ref (b + q) :: rest) := j_putF B hme rfl u_X7 tyX7 tyX7_ok nmX7 27 (by decide) rfl w_725 rfl rfl hq hn hfit hl hd kk
theorem pc_M_77 (B : jB l b D ta Γ "WireFieldModel" cc ret nL rm) (hme : Γ.2.2.2.2.2.2.2.1.name = "<init>") {q : Nat} {fs : List Value} {v : Value} (hq : σ[q]? = some (.inr (7, fs))) (hn : narrow (tyX7 35) v = v) (hfit : fits (tyX7 35) v = true) (hl : 35 < fs.length) (hd : decode cc pc = .ok (.putfield 77, 3)) (kk : jW l b D Γ ex cs ss nL (σ.set q (.inr (7, fs.set 35 v))) L (pc + 3) rest) : jW l b D Γ ex cs ss nL σ L pc (v :: .ref (b + q) :: rest) := j_putF B hme rfl u_X7 tyX7 tyX7_ok nmX7 35 (by decide) rfl w_733 rfl rfl hq hn hfit hl hd kk
theorem pc_M_80 (B : jB l b D ta Γ "WireFieldModel" cc ret nL rm) (hme : Γ.2.2.2.2.2.2.2.1.name = "<init>") {q : Nat} {fs : List Value} {v : Value} (hq : σ[q]? = some (.inr (7, fs))) (hn : narrow (tyX7 36) v = v) (hfit : fits (tyX7 36) v = true) (hl : 36 < fs.length) (hd : decode cc pc = .ok (.putfield 80, 3)) (kk : jW l b D Γ ex cs ss nL (σ.set q (.inr (7, fs.set 36 v))) L (pc + 3) rest) : jW l b D Γ ex cs ss nL σ L pc (v :: .ref (b + q) :: rest) := j_putF B hme rfl u_X7 tyX7 tyX7_ok nmX7 36 (by decide) rfl w_734 rfl rfl hq hn hfit hl hd kk
theorem pc_M_83 (B : jB l b D ta Γ "WireFieldModel" cc ret nL rm) (hme : Γ.2.2.2.2.2.2.2.1.name = "<init>") {q : Nat} {fs : List Value} {v : Value} (hq : σ[q]? = some (.inr (7, fs))) (hn : narrow (tyX7 37) v = v) (hfit : fits (tyX7 37) v = true) (hl : 37 < fs.length) (hd : decode cc pc = .ok (.putfield 83, 3)) (kk : jW l b D Γ ex cs ss nL (σ.set q (.inr (7, fs.set 37 v))) L (pc + 3) rest) : jW l b D Γ ex cs ss nL σ L pc (v :: .ref (b + q) :: rest) := j_putF B hme rfl u_X7 tyX7 tyX7_ok nmX7 37 (by decide) rfl w_735 rfl rfl hq hn hfit hl hd kk
theorem pc_M_86 (B : jB l b D ta Γ "WireFieldModel" cc ret nL rm) (hme : Γ.2.2.2.2.2.2.2.1.name = "<init>") {q : Nat} {fs : List Value} {v : Value} (hq : σ[q]? = some (.inr (7, fs))) (hn : narrow (tyX7 38) v = v) (hfit : fits (tyX7 38) v = true) (hl : 38 < fs.length) (hd : decode cc pc = .ok (.putfield 86, 3)) (kk : jW l b D Γ ex cs ss nL (σ.set q (.inr (7, fs.set 38 v))) L (pc + 3) rest) : jW l b D Γ ex cs ss nL σ L pc (v :: .ref (b + q) :: rest) := j_putF B hme rfl u_X7 tyX7 tyX7_ok nmX7 38 (by decide) rfl w_736 rfl rfl hq hn hfit hl hd kk
theorem pc_M_89 (B : jB l b D ta Γ "WireFieldModel" cc ret nL rm) (hme : Γ.2.2.2.2.2.2.2.1.name = "<init>") {q : Nat} {fs : List Value} {v : Value} (hq : σ[q]? = some (.inr (7, fs))) (hn : narrow (tyX7 39) v = v) (hfit : fits (tyX7 39) v = true) (hl : 39 < fs.length) (hd : decode cc pc = .ok (.putfield 89, 3)) (kk : jW l b D Γ ex cs ss nL (σ.set q (.inr (7, fs.set 39 v))) L (pc + 3) rest) : jW l b D Γ ex cs ss nL σ L pc (v :: .ref (b + q) :: rest) := j_putF B hme rfl u_X7 tyX7 tyX7_ok nmX7 39 (by decide) rfl w_737 rfl rfl hq hn hfit hl hd kk
theorem pc_M_92 (B : jB l b D ta Γ "WireFieldModel" cc ret nL rm) (hme : Γ.2.2.2.2.2.2.2.1.name = "<init>") {q : Nat} {fs : List Value} {v : Value} (hq : σ[q]? = some (.inr (7, fs))) (hn : narrow (tyX7 40) v = v) (hfit : fits (tyX7 40) v = true) (hl : 40 < fs.length) (hd : decode cc pc = .ok (.putfield 92, 3)) (kk : jW l b D Γ ex cs ss nL (σ.set q (.inr (7, fs.set 40 v))) L (pc + 3) rest) : jW l b D Γ ex cs ss nL σ L pc (v :: .ref (b + q) :: rest) := j_putF B hme rfl u_X7 tyX7 tyX7_ok nmX7 40 (by decide) rfl w_738 rfl rfl hq hn hfit hl hd kk
theorem pc_M_95 (B : jB l b D ta Γ "WireFieldModel" cc ret nL rm) (hme : Γ.2.2.2.2.2.2.2.1.name = "<init>") {q : Nat} {fs : List Value} {v : Value} (hq : σ[q]? = some (.inr (7, fs))) (hn : narrow (tyX7 41) v = v) (hfit : fits (tyX7 41) v = true) (hl : 41 < fs.length) (hd : decode cc pc = .ok (.putfield 95, 3)) (kk : jW l b D Γ ex cs ss nL (σ.set q (.inr (7, fs.set 41 v))) L (pc + 3) rest) : jW l b D Γ ex cs ss nL σ L pc (v :: .ref (b + q) :: rest) := j_putF B hme rfl u_X7 tyX7 tyX7_ok nmX7 41 (by decide) rfl w_739 rfl rfl hq hn hfit hl hd kk
theorem pc_M_98 (B : jB l b D ta Γ "WireFieldModel" cc ret nL rm) (hme : Γ.2.2.2.2.2.2.2.1.name = "<init>") {q : Nat} {fs : List Value} {v : Value} (hq : σ[q]? = some (.inr (7, fs))) (hn : narrow (tyX7 42) v = v) (hfit : fits (tyX7 42) v = true) (hl : 42 < fs.length) (hd : decode cc pc = .ok (.putfield 98, 3)) (kk : jW l b D Γ ex cs ss nL (σ.set q (.inr (7, fs.set 42 v))) L (pc + 3) rest) : jW l b D Γ ex cs ss nL σ L pc (v :: .ref (b + q) :: rest) := j_putF B hme rfl u_X7 tyX7 tyX7_ok nmX7 42 (by decide) rfl w_740 rfl rfl hq hn hfit hl hd kk
theorem gf_M_62 (B : jB l b D ta Γ "WireFieldModel" cc ret nL rm) {q : Nat} {fs : List Value} {v : Value} (hq : σ[q]? = some (.inr (7, fs))) (hv : fs[23]? = some v) (hd : decode cc pc = .ok (.getfield 62, 3)) (kk : jW l b D Γ ex cs ss nL σ L (pc + 3) (v :: rest)) : jW l b D Γ ex cs ss nL σ L pc (.ref (b + q) :: rest) := j_get B rfl u_X7 23 (by decide) rfl w_721 hq hv hd kk
theorem gf_M_102 (B : jB l b D ta Γ "WireFieldModel" cc ret nL rm) {q : Nat} {fs : List Value} {v : Value} (hq : σ[q]? = some (.inr (7, fs))) (hv : fs[0]? = some v) (hd : decode cc pc = .ok (.getfield 102, 3)) (kk : jW l b D Γ ex cs ss nL σ L (pc + 3) (v :: rest)) : jW l b D Γ ex cs ss nL σ L pc (.ref (b + q) :: rest) := j_get B rfl u_X7 0 (by decide) rfl w_698 hq hv hd kk
theorem gf_M_19 (B : jB l b D ta Γ "WireFieldModel" cc ret nL rm) {q : Nat} {fs : List Value} {v : Value} (hq : σ[q]? = some (.inr (7, fs))) (hv : fs[4]? = some v) (hd : decode cc pc = .ok (.getfield 19, 3)) (kk : jW l b D Γ ex cs ss nL σ L (pc + 3) (v :: rest)) : jW l b D Γ ex cs ss nL σ L pc (.ref (b + q) :: rest) := j_get B rfl u_X7 4 (by decide) rfl w_702 hq hv hd kk
theorem gf_M_22 (B : jB l b D ta Γ "WireFieldModel" cc ret nL rm) {q : Nat} {fs : List Value} {v : Value} (hq : σ[q]? = some (.inr (7, fs))) (hv : fs[5]? = some v) (hd : decode cc pc = .ok (.getfield 22, 3)) (kk : jW l b D Γ ex cs ss nL σ L (pc + 3) (v :: rest)) : jW l b D Γ ex cs ss nL σ L pc (.ref (b + q) :: rest) := j_get B rfl u_X7 5 (by decide) rfl w_703 hq hv hd kk
theorem gf_M_110 (B : jB l b D ta Γ "WireFieldModel" cc ret nL rm) {q : Nat} {fs : List Value} {v : Value} (hq : σ[q]? = some (.inr (7, fs))) (hv : fs[7]? = some v) (hd : decode cc pc = .ok (.getfield 110, 3)) (kk : jW l b D Γ ex cs ss nL σ L (pc + 3) (v :: rest)) : jW l b D Γ ex cs ss nL σ L pc (.ref (b + q) :: rest) := j_get B rfl u_X7 7 (by decide) rfl w_705 hq hv hd kk
theorem gf_M_7 (B : jB l b D ta Γ "WireFieldModel" cc ret nL rm) {q : Nat} {fs : List Value} {v : Value} (hq : σ[q]? = some (.inr (7, fs))) (hv : fs[1]? = some v) (hd : decode cc pc = .ok (.getfield 7, 3)) (kk : jW l b D Γ ex cs ss nL σ L (pc + 3) (v :: rest)) : jW l b D Γ ex cs ss nL σ L pc (.ref (b + q) :: rest) := j_get B rfl u_X7 1 (by decide) rfl w_699 hq hv hd kk
theorem gf_M_13 (B : jB l b D ta Γ "WireFieldModel" cc ret nL rm) {q : Nat} {fs : List Value} {v : Value} (hq : σ[q]? = some (.inr (7, fs))) (hv : fs[2]? = some v) (hd : decode cc pc = .ok (.getfield 13, 3)) (kk : jW l b D Γ ex cs ss nL σ L (pc + 3) (v :: rest)) : jW l b D Γ ex cs ss nL σ L pc (.ref (b + q) :: rest) := j_get B rfl u_X7 2 (by decide) rfl w_700 hq hv hd kk
theorem gf_M_16 (B : jB l b D ta Γ "WireFieldModel" cc ret nL rm) {q : Nat} {fs : List Value} {v : Value} (hq : σ[q]? = some (.inr (7, fs))) (hv : fs[3]? = some v) (hd : decode cc pc = .ok (.getfield 16, 3)) (kk : jW l b D Γ ex cs ss nL σ L (pc + 3) (v :: rest)) : jW l b D Γ ex cs ss nL σ L pc (.ref (b + q) :: rest) := j_get B rfl u_X7 3 (by decide) rfl w_701 hq hv hd kk
theorem gf_M_25 (B : jB l b D ta Γ "WireFieldModel" cc ret nL rm) {q : Nat} {fs : List Value} {v : Value} (hq : σ[q]? = some (.inr (7, fs))) (hv : fs[6]? = some v) (hd : decode cc pc = .ok (.getfield 25, 3)) (kk : jW l b D Γ ex cs ss nL σ L (pc + 3) (v :: rest)) : jW l b D Γ ex cs ss nL σ L pc (.ref (b + q) :: rest) := j_get B rfl u_X7 6 (by decide) rfl w_704 hq hv hd kk
theorem gf_M_41 (B : jB l b D ta Γ "WireFieldModel" cc ret nL rm) {q : Nat} {fs : List Value} {v : Value} (hq : σ[q]? = some (.inr (7, fs))) (hv : fs[15]? = some v) (hd : decode cc pc = .ok (.getfield 41, 3)) (kk : jW l b D Γ ex cs ss nL σ L (pc + 3) (v :: rest)) : jW l b D Γ ex cs ss nL σ L pc (.ref (b + q) :: rest) := j_get B rfl u_X7 15 (by decide) rfl w_713 hq hv hd kk
theorem pf_M_110 (B : jB l b D ta Γ "WireFieldModel" cc ret nL rm) (hex : ¬ ex) {q : Nat} {fs : List Value} {v : Value} (hq : σ[q]? = some (.inr (7, fs))) (hn : narrow (tyX7 7) v = v) (hfit : fits (tyX7 7) v = true) (hl : 7 < fs.length) (hd : decode cc pc = .ok (.putfield 110, 3)) (kk : jW l b D Γ ex cs ss nL (σ.set q (.inr (7, fs.set 7 v))) L (pc + 3) rest) : jW l b D Γ ex cs ss nL σ L pc (v :: .ref (b + q) :: rest) := j_put B hex rfl u_X7 tyX7 tyX7_ok nmX7 7 (by decide) rfl w_705 rfl hq hn hfit hl hd kk
theorem gf_M_113 (B : jB l b D ta Γ "WireFieldModel" cc ret nL rm) {q : Nat} {fs : List Value} {v : Value} (hq : σ[q]? = some (.inr (7, fs))) (hv : fs[8]? = some v) (hd : decode cc pc = .ok (.getfield 113, 3)) (kk : jW l b D Γ ex cs ss nL σ L (pc + 3) (v :: rest)) : jW l b D Γ ex cs ss nL σ L pc (.ref (b + q) :: rest) := j_get B rfl u_X7 8 (by decide) rfl w_706 hq hv hd kk
theorem pf_M_113 (B : jB l b D ta Γ "WireFieldModel" cc ret nL rm) (hex : ¬ ex) {q : Nat} {fs : List Value} {v : Value} (hq : σ[q]? = some (.inr (7, fs))) (hn : narrow (tyX7 8) v = v) (hfit : fits (tyX7 8) v = true) (hl : 8 < fs.length) (hd : decode cc pc = .ok (.putfield 113, 3)) (kk : jW l b D Γ ex cs ss nL (σ.set q (.inr (7, fs.set 8 v))) L (pc + 3) rest) : jW l b D Γ ex cs ss nL σ L pc (v :: .ref (b + q) :: rest) := j_put B hex rfl u_X7 tyX7 tyX7_ok nmX7 8 (by decide) rfl w_706 rfl hq hn hfit hl hd kk
theorem gf_M_119 (B : jB l b D ta Γ "WireFieldModel" cc ret nL rm) {q : Nat} {fs : List Value} {v : Value} (hq : σ[q]? = some (.inr (7, fs))) (hv : fs[10]? = some v) (hd : decode cc pc = .ok (.getfield 119, 3)) (kk : jW l b D Γ ex cs ss nL σ L (pc + 3) (v :: rest)) : jW l b D Γ ex cs ss nL σ L pc (.ref (b + q) :: rest) := j_get B rfl u_X7 10 (by decide) rfl w_708 hq hv hd kk
theorem gf_M_28 (B : jB l b D ta Γ "WireFieldModel" cc ret nL rm) {q : Nat} {fs : List Value} {v : Value} (hq : σ[q]? = some (.inr (7, fs))) (hv : fs[11]? = some v) (hd : decode cc pc = .ok (.getfield 28, 3)) (kk : jW l b D Γ ex cs ss nL σ L (pc + 3) (v :: rest)) : jW l b D Γ ex cs ss nL σ L pc (.ref (b + q) :: rest) := j_get B rfl u_X7 11 (by decide) rfl w_709 hq hv hd kk
theorem gf_M_34 (B : jB l b D ta Γ "WireFieldModel" cc ret nL rm) {q : Nat} {fs : List Value} {v : Value} (hq : σ[q]? = some (.inr (7, fs))) (hv : fs[13]? = some v) (hd : decode cc pc = .ok (.getfield 34, 3)) (kk : jW l b D Γ ex cs ss nL σ L (pc + 3) (v :: rest)) : jW l b D Γ ex cs ss nL σ L pc (.ref (b + q) :: rest) := j_get B rfl u_X7 13 (by decide) rfl w_711 hq hv hd kk
theorem gf_M_31 (B : jB l b D ta Γ "WireFieldModel" cc ret nL rm) {q : Nat} {fs : List Value} {v : Value} (hq : σ[q]? = some (.inr (7, fs))) (hv : fs[12]? = some v) (hd : decode cc pc = .ok (.getfield 31, 3)) (kk : jW l b D Γ ex cs ss nL σ L (pc + 3) (v :: rest)) : jW l b D Γ ex cs ss nL σ L pc (.ref (b + q) :: rest) := j_get B rfl u_X7 12 (by decide) rfl w_710 hq hv hd kk
theorem gf_M_38 (B : jB l b D ta Γ "WireFieldModel" cc ret nL rm) {q : Nat} {fs : List Value} {v : Value} (hq : σ[q]? = some (.inr (7, fs))) (hv : fs[14]? = some v) (hd : decode cc pc = .ok (.getfield 38, 3)) (kk : jW l b D Γ ex cs ss nL σ L (pc + 3) (v :: rest)) : jW l b D Γ ex cs ss nL σ L pc (.ref (b + q) :: rest) := j_get B rfl u_X7 14 (by decide) rfl w_712 hq hv hd kk
theorem gf_M_125 (B : jB l b D ta Γ "WireFieldModel" cc ret nL rm) {q : Nat} {fs : List Value} {v : Value} (hq : σ[q]? = some (.inr (7, fs))) (hv : fs[9]? = some v) (hd : decode cc pc = .ok (.getfield 125, 3)) (kk : jW l b D Γ ex cs ss nL σ L (pc + 3) (v :: rest)) : jW l b D Γ ex cs ss nL σ L pc (.ref (b + q) :: rest) := j_get B rfl u_X7 9 (by decide) rfl w_707 hq hv hd kk
theorem pf_M_125 (B : jB l b D ta Γ "WireFieldModel" cc ret nL rm) (hex : ¬ ex) {q : Nat} {fs : List Value} {v : Value} (hq : σ[q]? = some (.inr (7, fs))) (hn : narrow (tyX7 9) v = v) (hfit : fits (tyX7 9) v = true) (hl : 9 < fs.length) (hd : decode cc pc = .ok (.putfield 125, 3)) (kk : jW l b D Γ ex cs ss nL (σ.set q (.inr (7, fs.set 9 v))) L (pc + 3) rest) : jW l b D Γ ex cs ss nL σ L pc (v :: .ref (b + q) :: rest) := j_put B hex rfl u_X7 tyX7 tyX7_ok nmX7 9 (by decide) rfl w_707 rfl hq hn hfit hl hd kk
theorem gf_M_128 (B : jB l b D ta Γ "WireFieldModel" cc ret nL rm) {q : Nat} {fs : List Value} {v : Value} (hq : σ[q]? = some (.inr (7, fs))) (hv : fs[16]? = some v) (hd : decode cc pc = .ok (.getfield 128, 3)) (kk : jW l b D Γ ex cs ss nL σ L (pc + 3) (v :: rest)) : jW l b D Γ ex cs ss nL σ L pc (.ref (b + q) :: rest) := j_get B rfl u_X7 16 (by decide) rfl w_714 hq hv hd kk
theorem gf_M_47 (B : jB l b D ta Γ "WireFieldModel" cc ret nL rm) {q : Nat} {fs : List Value} {v : Value} (hq : σ[q]? = some (.inr (7, fs))) (hv : fs[18]? = some v) (hd : decode cc pc = .ok (.getfield 47, 3)) (kk : jW l b D Γ ex cs ss nL σ L (pc + 3) (v :: rest)) : jW l b D Γ ex cs ss nL σ L pc (.ref (b + q) :: rest) := j_get B rfl u_X7 18 (by decide) rfl w_716 hq hv hd kk
theorem gf_M_44 (B : jB l b D ta Γ "WireFieldModel" cc ret nL rm) {q : Nat} {fs : List Value} {v : Value} (hq : σ[q]? = some (.inr (7, fs))) (hv : fs[17]? = some v) (hd : decode cc pc = .ok (.getfield 44, 3)) (kk : jW l b D Γ ex cs ss nL σ L (pc + 3) (v :: rest)) : jW l b D Γ ex cs ss nL σ L pc (.ref (b + q) :: rest) := j_get B rfl u_X7 17 (by decide) rfl w_715 hq hv hd kk
theorem gf_M_56 (B : jB l b D ta Γ "WireFieldModel" cc ret nL rm) {q : Nat} {fs : List Value} {v : Value} (hq : σ[q]? = some (.inr (7, fs))) (hv : fs[21]? = some v) (hd : decode cc pc = .ok (.getfield 56, 3)) (kk : jW l b D Γ ex cs ss nL σ L (pc + 3) (v :: rest)) : jW l b D Γ ex cs ss nL σ L pc (.ref (b + q) :: rest) := j_get B rfl u_X7 21 (by decide) rfl w_719 hq hv hd kk
theorem gf_M_50 (B : jB l b D ta Γ "WireFieldModel" cc ret nL rm) {q : Nat} {fs : List Value} {v : Value} (hq : σ[q]? = some (.inr (7, fs))) (hv : fs[19]? = some v) (hd : decode cc pc = .ok (.getfield 50, 3)) (kk : jW l b D Γ ex cs ss nL σ L (pc + 3) (v :: rest)) : jW l b D Γ ex cs ss nL σ L pc (.ref (b + q) :: rest) := j_get B rfl u_X7 19 (by decide) rfl w_717 hq hv hd kk
theorem gf_M_53 (B : jB l b D ta Γ "WireFieldModel" cc ret nL rm) {q : Nat} {fs : List Value} {v : Value} (hq : σ[q]? = some (.inr (7, fs))) (hv : fs[20]? = some v) (hd : decode cc pc = .ok (.getfield 53, 3)) (kk : jW l b D Γ ex cs ss nL σ L (pc + 3) (v :: rest)) : jW l b D Γ ex cs ss nL σ L pc (.ref (b + q) :: rest) := j_get B rfl u_X7 20 (by decide) rfl w_718 hq hv hd kk
theorem pf_M_102 (B : jB l b D ta Γ "WireFieldModel" cc ret nL rm) (hex : ¬ ex) {q : Nat} {fs : List Value} {v : Value} (hq : σ[q]? = some (.inr (7, fs))) (hn : narrow (tyX7 0) v = v) (hfit : fits (tyX7 0) v = true) (hl : 0 < fs.length) (hd : decode cc pc = .ok (.putfield 102, 3)) (kk : jW l b D Γ ex cs ss nL (σ.set q (.inr (7, fs.set 0 v))) L (pc + 3) rest) : jW l b D Γ ex cs ss nL σ L pc (v :: .ref (b + q) :: rest) := j_put B hex rfl u_X7 tyX7 tyX7_ok nmX7 0 (by decide) rfl w_698 rfl hq hn hfit hl hd kk
theorem gf_M_59 (B : jB l b D ta Γ "WireFieldModel" cc ret nL rm) {q : Nat} {fs : List Value} {v : Value} (hq : σ[q]? = some (.inr (7, fs))) (hv : fs[22]? = some v) (hd : decode cc pc = .ok (.getfield 59, 3)) (kk : jW l b D Γ ex cs ss nL σ L (pc + 3) (v :: rest)) : jW l b D Γ ex cs ss nL σ L pc (.ref (b + q) :: rest) := j_get B rfl u_X7 22 (by decide) rfl w_720 hq hv hd kk
theorem gf_M_65 (B : jB l b D ta Γ "WireFieldModel" cc ret nL rm) {q : Nat} {fs : List Value} {v : Value} (hq : σ[q]? = some (.inr (7, fs))) (hv : fs[24]? = some v) (hd : decode cc pc = .ok (.getfield 65, 3)) (kk : jW l b D Γ ex cs ss nL σ L (pc + 3) (v :: rest)) : jW l b D Γ ex cs ss nL σ L pc (.ref (b + q) :: rest) := j_get B rfl u_X7 24 (by decide) rfl w_722 hq hv hd kk
theorem gf_M_156 (B : jB l b D ta Γ "WireFieldModel" cc ret nL rm) {q : Nat} {fs : List Value} {v : Value} (hq : σ[q]? = some (.inr (7, fs))) (hv : fs[32]? = some v) (hd : decode cc pc = .ok (.getfield 156, 3)) (kk : jW l b D Γ ex cs ss nL σ L (pc + 3) (v :: rest)) : jW l b D Γ ex cs ss nL σ L pc (.ref (b + q) :: rest) := j_get B rfl u_X7 32 (by decide) rfl w_730 hq hv hd kk
theorem pf_M_156 (B : jB l b D ta Γ "WireFieldModel" cc ret nL rm) (hex : ¬ ex) {q : Nat} {fs : List Value} {v : Value} (hq : σ[q]? = some (.inr (7, fs))) (hn : narrow (tyX7 32) v = v) (hfit : fits (tyX7 32) v = true) (hl : 32 < fs.length) (hd : decode cc pc = .ok (.putfield 156, 3)) (kk : jW l b D Γ ex cs ss nL (σ.set q (.inr (7, fs.set 32 v))) L (pc + 3) rest) : jW l b D Γ ex cs ss nL σ L pc (v :: .ref (b + q) :: rest) := j_put B hex rfl u_X7 tyX7 tyX7_ok nmX7 32 (by decide) rfl w_730 rfl hq hn hfit hl hd kk
theorem gf_M_159 (B : jB l b D ta Γ "WireFieldModel" cc ret nL rm) {q : Nat} {fs : List Value} {v : Value} (hq : σ[q]? = some (.inr (7, fs))) (hv : fs[33]? = some v) (hd : decode cc pc = .ok (.getfield 159, 3)) (kk : jW l b D Γ ex cs ss nL σ L (pc + 3) (v :: rest)) : jW l b D Γ ex cs ss nL σ L pc (.ref (b + q) :: rest) := j_get B rfl u_X7 33 (by decide) rfl w_731 hq hv hd kk
theorem pf_M_159 (B : jB l b D ta Γ "WireFieldModel" cc ret nL rm) (hex : ¬ ex) {q : Nat} {fs : List Value} {v : Value} (hq : σ[q]? = some (.inr (7, fs))) (hn : narrow (tyX7 33) v = v) (hfit : fits (tyX7 33) v = true) (hl : 33 < fs.length) (hd : decode cc pc = .ok (.putfield 159, 3)) (kk : jW l b D Γ ex cs ss nL (σ.set q (.inr (7, fs.set 33 v))) L (pc + 3) rest) : jW l b D Γ ex cs ss nL σ L pc (v :: .ref (b + q) :: rest) := j_put B hex rfl u_X7 tyX7 tyX7_ok nmX7 33 (by decide) rfl w_731 rfl hq hn hfit hl hd kk
theorem gf_M_68 (B : jB l b D ta Γ "WireFieldModel" cc ret nL rm) {q : Nat} {fs : List Value} {v : Value} (hq : σ[q]? = some (.inr (7, fs))) (hv : fs[25]? = some v) (hd : decode cc pc = .ok (.getfield 68, 3)) (kk : jW l b D Γ ex cs ss nL σ L (pc + 3) (v :: rest)) : jW l b D Γ ex cs ss nL σ L pc (.ref (b + q) :: rest) := j_get B rfl u_X7 25 (by decide) rfl w_723 hq hv hd kk
theorem gf_M_71 (B : jB l b D ta Γ "WireFieldModel" cc ret nL rm) {q : Nat} {fs : List Value} {v : Value} (hq : σ[q]? = some (.inr (7, fs))) (hv : fs[26]? = some v) (hd : decode cc pc = .ok (.getfield 71, 3)) (kk : jW l b D Γ ex cs ss nL σ L (pc + 3) (v :: rest)) : jW l b D Γ ex cs ss nL σ L pc (.ref (b + q) :: rest) := j_get B rfl u_X7 26 (by decide) rfl w_724 hq hv hd kk
theorem gf_M_74 (B : jB l b D ta Γ "WireFieldModel" cc ret nL rm) {q : Nat} {fs : List Value} {v : Value} (hq : σ[q]? = some (.inr (7, fs))) (hv : fs[27]? = some v) (hd : decode cc pc = .ok (.getfield 74, 3)) (kk : jW l b D Γ ex cs ss nL σ L (pc + 3) (v :: rest)) : jW l b D Γ ex cs ss nL σ L pc (.ref (b + q) :: rest) := j_get B rfl u_X7 27 (by decide) rfl w_725 hq hv hd kk
theorem gf_M_167 (B : jB l b D ta Γ "WireFieldModel" cc ret nL rm) {q : Nat} {fs : List Value} {v : Value} (hq : σ[q]? = some (.inr (7, fs))) (hv : fs[28]? = some v) (hd : decode cc pc = .ok (.getfield 167, 3)) (kk : jW l b D Γ ex cs ss nL σ L (pc + 3) (v :: rest)) : jW l b D Γ ex cs ss nL σ L pc (.ref (b + q) :: rest) := j_get B rfl u_X7 28 (by decide) rfl w_726 hq hv hd kk
theorem gf_M_170 (B : jB l b D ta Γ "WireFieldModel" cc ret nL rm) {q : Nat} {fs : List Value} {v : Value} (hq : σ[q]? = some (.inr (7, fs))) (hv : fs[30]? = some v) (hd : decode cc pc = .ok (.getfield 170, 3)) (kk : jW l b D Γ ex cs ss nL σ L (pc + 3) (v :: rest)) : jW l b D Γ ex cs ss nL σ L pc (.ref (b + q) :: rest) := j_get B rfl u_X7 30 (by decide) rfl w_728 hq hv hd kk
theorem pf_M_167 (B : jB l b D ta Γ "WireFieldModel" cc ret nL rm) (hex : ¬ ex) {q : Nat} {fs : List Value} {v : Value} (hq : σ[q]? = some (.inr (7, fs))) (hn : narrow (tyX7 28) v = v) (hfit : fits (tyX7 28) v = true) (hl : 28 < fs.length) (hd : decode cc pc = .ok (.putfield 167, 3)) (kk : jW l b D Γ ex cs ss nL (σ.set q (.inr (7, fs.set 28 v))) L (pc + 3) rest) : jW l b D Γ ex cs ss nL σ L pc (v :: .ref (b + q) :: rest) := j_put B hex rfl u_X7 tyX7 tyX7_ok nmX7 28 (by decide) rfl w_726 rfl hq hn hfit hl hd kk
theorem gf_M_176 (B : jB l b D ta Γ "WireFieldModel" cc ret nL rm) {q : Nat} {fs : List Value} {v : Value} (hq : σ[q]? = some (.inr (7, fs))) (hv : fs[29]? = some v) (hd : decode cc pc = .ok (.getfield 176, 3)) (kk : jW l b D Γ ex cs ss nL σ L (pc + 3) (v :: rest)) : jW l b D Γ ex cs ss nL σ L pc (.ref (b + q) :: rest) := j_get B rfl u_X7 29 (by decide) rfl w_727 hq hv hd kk
theorem pf_M_176 (B : jB l b D ta Γ "WireFieldModel" cc ret nL rm) (hex : ¬ ex) {q : Nat} {fs : List Value} {v : Value} (hq : σ[q]? = some (.inr (7, fs))) (hn : narrow (tyX7 29) v = v) (hfit : fits (tyX7 29) v = true) (hl : 29 < fs.length) (hd : decode cc pc = .ok (.putfield 176, 3)) (kk : jW l b D Γ ex cs ss nL (σ.set q (.inr (7, fs.set 29 v))) L (pc + 3) rest) : jW l b D Γ ex cs ss nL σ L pc (v :: .ref (b + q) :: rest) := j_put B hex rfl u_X7 tyX7 tyX7_ok nmX7 29 (by decide) rfl w_727 rfl hq hn hfit hl hd kk
theorem gf_M_182 (B : jB l b D ta Γ "WireFieldModel" cc ret nL rm) {q : Nat} {fs : List Value} {v : Value} (hq : σ[q]? = some (.inr (7, fs))) (hv : fs[31]? = some v) (hd : decode cc pc = .ok (.getfield 182, 3)) (kk : jW l b D Γ ex cs ss nL σ L (pc + 3) (v :: rest)) : jW l b D Γ ex cs ss nL σ L pc (.ref (b + q) :: rest) := j_get B rfl u_X7 31 (by decide) rfl w_729 hq hv hd kk
theorem pf_M_170 (B : jB l b D ta Γ "WireFieldModel" cc ret nL rm) (hex : ¬ ex) {q : Nat} {fs : List Value} {v : Value} (hq : σ[q]? = some (.inr (7, fs))) (hn : narrow (tyX7 30) v = v) (hfit : fits (tyX7 30) v = true) (hl : 30 < fs.length) (hd : decode cc pc = .ok (.putfield 170, 3)) (kk : jW l b D Γ ex cs ss nL (σ.set q (.inr (7, fs.set 30 v))) L (pc + 3) rest) : jW l b D Γ ex cs ss nL σ L pc (v :: .ref (b + q) :: rest) := j_put B hex rfl u_X7 tyX7 tyX7_ok nmX7 30 (by decide) rfl w_728 rfl hq hn hfit hl hd kk
theorem pf_M_182 (B : jB l b D ta Γ "WireFieldModel" cc ret nL rm) (hex : ¬ ex) {q : Nat} {fs : List Value} {v : Value} (hq : σ[q]? = some (.inr (7, fs))) (hn : narrow (tyX7 31) v = v) (hfit : fits (tyX7 31) v = true) (hl : 31 < fs.length) (hd : decode cc pc = .ok (.putfield 182, 3)) (kk : jW l b D Γ ex cs ss nL (σ.set q (.inr (7, fs.set 31 v))) L (pc + 3) rest) : jW l b D Γ ex cs ss nL σ L pc (v :: .ref (b + q) :: rest) := j_put B hex rfl u_X7 tyX7 tyX7_ok nmX7 31 (by decide) rfl w_729 rfl hq hn hfit hl hd kk
theorem gf_M_77 (B : jB l b D ta Γ "WireFieldModel" cc ret nL rm) {q : Nat} {fs : List Value} {v : Value} (hq : σ[q]? = some (.inr (7, fs))) (hv : fs[35]? = some v) (hd : decode cc pc = .ok (.getfield 77, 3)) (kk : jW l b D Γ ex cs ss nL σ L (pc + 3) (v :: rest)) : jW l b D Γ ex cs ss nL σ L pc (.ref (b + q) :: rest) := j_get B rfl u_X7 35 (by decide) rfl w_733 hq hv hd kk
theorem gf_M_196 (B : jB l b D ta Γ "WireFieldModel" cc ret nL rm) {q : Nat} {fs : List Value} {v : Value} (hq : σ[q]? = some (.inr (7, fs))) (hv : fs[34]? = some v) (hd : decode cc pc = .ok (.getfield 196, 3)) (kk : jW l b D Γ ex cs ss nL σ L (pc + 3) (v :: rest)) : jW l b D Γ ex cs ss nL σ L pc (.ref (b + q) :: rest) := j_get B rfl u_X7 34 (by decide) rfl w_732 hq hv hd kk
theorem gf_M_80 (B : jB l b D ta Γ "WireFieldModel" cc ret nL rm) {q : Nat} {fs : List Value} {v : Value} (hq : σ[q]? = some (.inr (7, fs))) (hv : fs[36]? = some v) (hd : decode cc pc = .ok (.getfield 80, 3)) (kk : jW l b D Γ ex cs ss nL σ L (pc + 3) (v :: rest)) : jW l b D Γ ex cs ss nL σ L pc (.ref (b + q) :: rest) := j_get B rfl u_X7 36 (by decide) rfl w_734 hq hv hd kk
theorem gf_M_83 (B : jB l b D ta Γ "WireFieldModel" cc ret nL rm) {q : Nat} {fs : List Value} {v : Value} (hq : σ[q]? = some (.inr (7, fs))) (hv : fs[37]? = some v) (hd : decode cc pc = .ok (.getfield 83, 3)) (kk : jW l b D Γ ex cs ss nL σ L (pc + 3) (v :: rest)) : jW l b D Γ ex cs ss nL σ L pc (.ref (b + q) :: rest) := j_get B rfl u_X7 37 (by decide) rfl w_735 hq hv hd kk
theorem gf_M_86 (B : jB l b D ta Γ "WireFieldModel" cc ret nL rm) {q : Nat} {fs : List Value} {v : Value} (hq : σ[q]? = some (.inr (7, fs))) (hv : fs[38]? = some v) (hd : decode cc pc = .ok (.getfield 86, 3)) (kk : jW l b D Γ ex cs ss nL σ L (pc + 3) (v :: rest)) : jW l b D Γ ex cs ss nL σ L pc (.ref (b + q) :: rest) := j_get B rfl u_X7 38 (by decide) rfl w_736 hq hv hd kk
theorem pf_M_196 (B : jB l b D ta Γ "WireFieldModel" cc ret nL rm) (hex : ¬ ex) {q : Nat} {fs : List Value} {v : Value} (hq : σ[q]? = some (.inr (7, fs))) (hn : narrow (tyX7 34) v = v) (hfit : fits (tyX7 34) v = true) (hl : 34 < fs.length) (hd : decode cc pc = .ok (.putfield 196, 3)) (kk : jW l b D Γ ex cs ss nL (σ.set q (.inr (7, fs.set 34 v))) L (pc + 3) rest) : jW l b D Γ ex cs ss nL σ L pc (v :: .ref (b + q) :: rest) := j_put B hex rfl u_X7 tyX7 tyX7_ok nmX7 34 (by decide) rfl w_732 rfl hq hn hfit hl hd kk
theorem gf_M_89 (B : jB l b D ta Γ "WireFieldModel" cc ret nL rm) {q : Nat} {fs : List Value} {v : Value} (hq : σ[q]? = some (.inr (7, fs))) (hv : fs[39]? = some v) (hd : decode cc pc = .ok (.getfield 89, 3)) (kk : jW l b D Γ ex cs ss nL σ L (pc + 3) (v :: rest)) : jW l b D Γ ex cs ss nL σ L pc (.ref (b + q) :: rest) := j_get B rfl u_X7 39 (by decide) rfl w_737 hq hv hd kk
theorem gf_M_92 (B : jB l b D ta Γ "WireFieldModel" cc ret nL rm) {q : Nat} {fs : List Value} {v : Value} (hq : σ[q]? = some (.inr (7, fs))) (hv : fs[40]? = some v) (hd : decode cc pc = .ok (.getfield 92, 3)) (kk : jW l b D Γ ex cs ss nL σ L (pc + 3) (v :: rest)) : jW l b D Γ ex cs ss nL σ L pc (.ref (b + q) :: rest) := j_get B rfl u_X7 40 (by decide) rfl w_738 hq hv hd kk
theorem gf_M_95 (B : jB l b D ta Γ "WireFieldModel" cc ret nL rm) {q : Nat} {fs : List Value} {v : Value} (hq : σ[q]? = some (.inr (7, fs))) (hv : fs[41]? = some v) (hd : decode cc pc = .ok (.getfield 95, 3)) (kk : jW l b D Γ ex cs ss nL σ L (pc + 3) (v :: rest)) : jW l b D Γ ex cs ss nL σ L pc (.ref (b + q) :: rest) := j_get B rfl u_X7 41 (by decide) rfl w_739 hq hv hd kk
theorem gf_M_98 (B : jB l b D ta Γ "WireFieldModel" cc ret nL rm) {q : Nat} {fs : List Value} {v : Value} (hq : σ[q]? = some (.inr (7, fs))) (hv : fs[42]? = some v) (hd : decode cc pc = .ok (.getfield 98, 3)) (kk : jW l b D Γ ex cs ss nL σ L (pc + 3) (v :: rest)) : jW l b D Γ ex cs ss nL σ L pc (.ref (b + q) :: rest) := j_get B rfl u_X7 42 (by decide) rfl w_740 hq hv hd kk
theorem pf_M_119 (B : jB l b D ta Γ "WireFieldModel" cc ret nL rm) (hex : ¬ ex) {q : Nat} {fs : List Value} {v : Value} (hq : σ[q]? = some (.inr (7, fs))) (hn : narrow (tyX7 10) v = v) (hfit : fits (tyX7 10) v = true) (hl : 10 < fs.length) (hd : decode cc pc = .ok (.putfield 119, 3)) (kk : jW l b D Γ ex cs ss nL (σ.set q (.inr (7, fs.set 10 v))) L (pc + 3) rest) : jW l b D Γ ex cs ss nL σ L pc (v :: .ref (b + q) :: rest) := j_put B hex rfl u_X7 tyX7 tyX7_ok nmX7 10 (by decide) rfl w_708 rfl hq hn hfit hl hd kk
theorem pf_M_128 (B : jB l b D ta Γ "WireFieldModel" cc ret nL rm) (hex : ¬ ex) {q : Nat} {fs : List Value} {v : Value} (hq : σ[q]? = some (.inr (7, fs))) (hn : narrow (tyX7 16) v = v) (hfit : fits (tyX7 16) v = true) (hl : 16 < fs.length) (hd : decode cc pc = .ok (.putfield 128, 3)) (kk : jW l b D Γ ex cs ss nL (σ.set q (.inr (7, fs.set 16 v))) L (pc + 3) rest) : jW l b D Γ ex cs ss nL σ L pc (v :: .ref (b + q) :: rest) := j_put B hex rfl u_X7 tyX7 tyX7_ok nmX7 16 (by decide) rfl w_714 rfl hq hn hfit hl hd kk
theorem pc_G_9 (B : jB l b D ta Γ "WireField$Grid" cc ret nL rm) (hme : Γ.2.2.2.2.2.2.2.1.name = "<init>") {q : Nat} {fs : List Value} {v : Value} (hq : σ[q]? = some (.inr (0, fs))) (hn : narrow (tyX0 0) v = v) (hfit : fits (tyX0 0) v = true) (hl : 0 < fs.length) (hd : decode cc pc = .ok (.putfield 9, 3)) (kk : jW l b D Γ ex cs ss nL (σ.set q (.inr (0, fs.set 0 v))) L (pc + 3) rest) : jW l b D Γ ex cs ss nL σ L pc (v :: .ref (b + q) :: rest) := j_putF B hme rfl u_X0 tyX0 tyX0_ok nmX0 0 (by decide) rfl w_37 rfl rfl hq hn hfit hl hd kk
theorem pc_G_15 (B : jB l b D ta Γ "WireField$Grid" cc ret nL rm) (hme : Γ.2.2.2.2.2.2.2.1.name = "<init>") {q : Nat} {fs : List Value} {v : Value} (hq : σ[q]? = some (.inr (0, fs))) (hn : narrow (tyX0 1) v = v) (hfit : fits (tyX0 1) v = true) (hl : 1 < fs.length) (hd : decode cc pc = .ok (.putfield 15, 3)) (kk : jW l b D Γ ex cs ss nL (σ.set q (.inr (0, fs.set 1 v))) L (pc + 3) rest) : jW l b D Γ ex cs ss nL σ L pc (v :: .ref (b + q) :: rest) := j_putF B hme rfl u_X0 tyX0 tyX0_ok nmX0 1 (by decide) rfl w_38 rfl rfl hq hn hfit hl hd kk
theorem pc_G_18 (B : jB l b D ta Γ "WireField$Grid" cc ret nL rm) (hme : Γ.2.2.2.2.2.2.2.1.name = "<init>") {q : Nat} {fs : List Value} {v : Value} (hq : σ[q]? = some (.inr (0, fs))) (hn : narrow (tyX0 2) v = v) (hfit : fits (tyX0 2) v = true) (hl : 2 < fs.length) (hd : decode cc pc = .ok (.putfield 18, 3)) (kk : jW l b D Γ ex cs ss nL (σ.set q (.inr (0, fs.set 2 v))) L (pc + 3) rest) : jW l b D Γ ex cs ss nL σ L pc (v :: .ref (b + q) :: rest) := j_putF B hme rfl u_X0 tyX0 tyX0_ok nmX0 2 (by decide) rfl w_39 rfl rfl hq hn hfit hl hd kk
theorem gf_G_9 (B : jB l b D ta Γ "WireField$Grid" cc ret nL rm) {q : Nat} {fs : List Value} {v : Value} (hq : σ[q]? = some (.inr (0, fs))) (hv : fs[0]? = some v) (hd : decode cc pc = .ok (.getfield 9, 3)) (kk : jW l b D Γ ex cs ss nL σ L (pc + 3) (v :: rest)) : jW l b D Γ ex cs ss nL σ L pc (.ref (b + q) :: rest) := j_get B rfl u_X0 0 (by decide) rfl w_37 hq hv hd kk
theorem gf_G_15 (B : jB l b D ta Γ "WireField$Grid" cc ret nL rm) {q : Nat} {fs : List Value} {v : Value} (hq : σ[q]? = some (.inr (0, fs))) (hv : fs[1]? = some v) (hd : decode cc pc = .ok (.getfield 15, 3)) (kk : jW l b D Γ ex cs ss nL σ L (pc + 3) (v :: rest)) : jW l b D Γ ex cs ss nL σ L pc (.ref (b + q) :: rest) := j_get B rfl u_X0 1 (by decide) rfl w_38 hq hv hd kk
theorem gf_G_18 (B : jB l b D ta Γ "WireField$Grid" cc ret nL rm) {q : Nat} {fs : List Value} {v : Value} (hq : σ[q]? = some (.inr (0, fs))) (hv : fs[2]? = some v) (hd : decode cc pc = .ok (.getfield 18, 3)) (kk : jW l b D Γ ex cs ss nL σ L (pc + 3) (v :: rest)) : jW l b D Γ ex cs ss nL σ L pc (.ref (b + q) :: rest) := j_get B rfl u_X0 2 (by decide) rfl w_39 hq hv hd kk
theorem pc_Mo_12 (B : jB l b D ta Γ "WireField$Moment" cc ret nL rm) (hme : Γ.2.2.2.2.2.2.2.1.name = "<init>") {q : Nat} {fs : List Value} {v : Value} (hq : σ[q]? = some (.inr (1, fs))) (hn : narrow (tyX1 0) v = v) (hfit : fits (tyX1 0) v = true) (hl : 0 < fs.length) (hd : decode cc pc = .ok (.putfield 12, 3)) (kk : jW l b D Γ ex cs ss nL (σ.set q (.inr (1, fs.set 0 v))) L (pc + 3) rest) : jW l b D Γ ex cs ss nL σ L pc (v :: .ref (b + q) :: rest) := j_putF B hme rfl u_X1 tyX1 tyX1_ok nmX1 0 (by decide) rfl w_157 rfl rfl hq hn hfit hl hd kk
theorem pc_Mo_18 (B : jB l b D ta Γ "WireField$Moment" cc ret nL rm) (hme : Γ.2.2.2.2.2.2.2.1.name = "<init>") {q : Nat} {fs : List Value} {v : Value} (hq : σ[q]? = some (.inr (1, fs))) (hn : narrow (tyX1 1) v = v) (hfit : fits (tyX1 1) v = true) (hl : 1 < fs.length) (hd : decode cc pc = .ok (.putfield 18, 3)) (kk : jW l b D Γ ex cs ss nL (σ.set q (.inr (1, fs.set 1 v))) L (pc + 3) rest) : jW l b D Γ ex cs ss nL σ L pc (v :: .ref (b + q) :: rest) := j_putF B hme rfl u_X1 tyX1 tyX1_ok nmX1 1 (by decide) rfl w_159 rfl rfl hq hn hfit hl hd kk
theorem pc_Pe_12 (B : jB l b D ta Γ "WireField$Pen" cc ret nL rm) (hme : Γ.2.2.2.2.2.2.2.1.name = "<init>") {q : Nat} {fs : List Value} {v : Value} (hq : σ[q]? = some (.inr (2, fs))) (hn : narrow (tyX2 0) v = v) (hfit : fits (tyX2 0) v = true) (hl : 0 < fs.length) (hd : decode cc pc = .ok (.putfield 12, 3)) (kk : jW l b D Γ ex cs ss nL (σ.set q (.inr (2, fs.set 0 v))) L (pc + 3) rest) : jW l b D Γ ex cs ss nL σ L pc (v :: .ref (b + q) :: rest) := j_putF B hme rfl u_X2 tyX2 tyX2_ok nmX2 0 (by decide) rfl w_56 rfl rfl hq hn hfit hl hd kk
theorem pc_Pe_18 (B : jB l b D ta Γ "WireField$Pen" cc ret nL rm) {q : Nat} {fs : List Value} {v : Value} (hq : σ[q]? = some (.inr (2, fs))) (hn : narrow (tyX2 1) v = v) (hfit : fits (tyX2 1) v = true) (hl : 1 < fs.length) (hd : decode cc pc = .ok (.putfield 18, 3)) (kk : jW l b D Γ ex cs ss nL (σ.set q (.inr (2, fs.set 1 v))) L (pc + 3) rest) : jW l b D Γ ex cs ss nL σ L pc (v :: .ref (b + q) :: rest) := j_putX B rfl u_X2 tyX2 tyX2_ok nmX2 1 (by decide) rfl w_58 rfl hq hn hfit hl hd kk
theorem pc_Pe_22 (B : jB l b D ta Γ "WireField$Pen" cc ret nL rm) {q : Nat} {fs : List Value} {v : Value} (hq : σ[q]? = some (.inr (2, fs))) (hn : narrow (tyX2 2) v = v) (hfit : fits (tyX2 2) v = true) (hl : 2 < fs.length) (hd : decode cc pc = .ok (.putfield 22, 3)) (kk : jW l b D Γ ex cs ss nL (σ.set q (.inr (2, fs.set 2 v))) L (pc + 3) rest) : jW l b D Γ ex cs ss nL σ L pc (v :: .ref (b + q) :: rest) := j_putX B rfl u_X2 tyX2 tyX2_ok nmX2 2 (by decide) rfl w_60 rfl hq hn hfit hl hd kk
theorem pc_Pe_25 (B : jB l b D ta Γ "WireField$Pen" cc ret nL rm) {q : Nat} {fs : List Value} {v : Value} (hq : σ[q]? = some (.inr (2, fs))) (hn : narrow (tyX2 3) v = v) (hfit : fits (tyX2 3) v = true) (hl : 3 < fs.length) (hd : decode cc pc = .ok (.putfield 25, 3)) (kk : jW l b D Γ ex cs ss nL (σ.set q (.inr (2, fs.set 3 v))) L (pc + 3) rest) : jW l b D Γ ex cs ss nL σ L pc (v :: .ref (b + q) :: rest) := j_putX B rfl u_X2 tyX2 tyX2_ok nmX2 3 (by decide) rfl w_62 rfl hq hn hfit hl hd kk
theorem pc_Pe_28 (B : jB l b D ta Γ "WireField$Pen" cc ret nL rm) {q : Nat} {fs : List Value} {v : Value} (hq : σ[q]? = some (.inr (2, fs))) (hn : narrow (tyX2 4) v = v) (hfit : fits (tyX2 4) v = true) (hl : 4 < fs.length) (hd : decode cc pc = .ok (.putfield 28, 3)) (kk : jW l b D Γ ex cs ss nL (σ.set q (.inr (2, fs.set 4 v))) L (pc + 3) rest) : jW l b D Γ ex cs ss nL σ L pc (v :: .ref (b + q) :: rest) := j_putX B rfl u_X2 tyX2 tyX2_ok nmX2 4 (by decide) rfl w_64 rfl hq hn hfit hl hd kk
theorem pc_Pe_32 (B : jB l b D ta Γ "WireField$Pen" cc ret nL rm) {q : Nat} {fs : List Value} {v : Value} (hq : σ[q]? = some (.inr (2, fs))) (hn : narrow (tyX2 5) v = v) (hfit : fits (tyX2 5) v = true) (hl : 5 < fs.length) (hd : decode cc pc = .ok (.putfield 32, 3)) (kk : jW l b D Γ ex cs ss nL (σ.set q (.inr (2, fs.set 5 v))) L (pc + 3) rest) : jW l b D Γ ex cs ss nL σ L pc (v :: .ref (b + q) :: rest) := j_putX B rfl u_X2 tyX2 tyX2_ok nmX2 5 (by decide) rfl w_66 rfl hq hn hfit hl hd kk
theorem gf_Pe_12 (B : jB l b D ta Γ "WireField$Pen" cc ret nL rm) {q : Nat} {fs : List Value} {v : Value} (hq : σ[q]? = some (.inr (2, fs))) (hv : fs[0]? = some v) (hd : decode cc pc = .ok (.getfield 12, 3)) (kk : jW l b D Γ ex cs ss nL σ L (pc + 3) (v :: rest)) : jW l b D Γ ex cs ss nL σ L pc (.ref (b + q) :: rest) := j_get B rfl u_X2 0 (by decide) rfl w_56 hq hv hd kk
theorem pf_Pe_18 (B : jB l b D ta Γ "WireField$Pen" cc ret nL rm) (hex : ¬ ex) {q : Nat} {fs : List Value} {v : Value} (hq : σ[q]? = some (.inr (2, fs))) (hn : narrow (tyX2 1) v = v) (hfit : fits (tyX2 1) v = true) (hl : 1 < fs.length) (hd : decode cc pc = .ok (.putfield 18, 3)) (kk : jW l b D Γ ex cs ss nL (σ.set q (.inr (2, fs.set 1 v))) L (pc + 3) rest) : jW l b D Γ ex cs ss nL σ L pc (v :: .ref (b + q) :: rest) := j_put B hex rfl u_X2 tyX2 tyX2_ok nmX2 1 (by decide) rfl w_58 rfl hq hn hfit hl hd kk
theorem pf_Pe_22 (B : jB l b D ta Γ "WireField$Pen" cc ret nL rm) (hex : ¬ ex) {q : Nat} {fs : List Value} {v : Value} (hq : σ[q]? = some (.inr (2, fs))) (hn : narrow (tyX2 2) v = v) (hfit : fits (tyX2 2) v = true) (hl : 2 < fs.length) (hd : decode cc pc = .ok (.putfield 22, 3)) (kk : jW l b D Γ ex cs ss nL (σ.set q (.inr (2, fs.set 2 v))) L (pc + 3) rest) : jW l b D Γ ex cs ss nL σ L pc (v :: .ref (b + q) :: rest) := j_put B hex rfl u_X2 tyX2 tyX2_ok nmX2 2 (by decide) rfl w_60 rfl hq hn hfit hl hd kk
theorem pf_Pe_25 (B : jB l b D ta Γ "WireField$Pen" cc ret nL rm) (hex : ¬ ex) {q : Nat} {fs : List Value} {v : Value} (hq : σ[q]? = some (.inr (2, fs))) (hn : narrow (tyX2 3) v = v) (hfit : fits (tyX2 3) v = true) (hl : 3 < fs.length) (hd : decode cc pc = .ok (.putfield 25, 3)) (kk : jW l b D Γ ex cs ss nL (σ.set q (.inr (2, fs.set 3 v))) L (pc + 3) rest) : jW l b D Γ ex cs ss nL σ L pc (v :: .ref (b + q) :: rest) := j_put B hex rfl u_X2 tyX2 tyX2_ok nmX2 3 (by decide) rfl w_62 rfl hq hn hfit hl hd kk
theorem pf_Pe_28 (B : jB l b D ta Γ "WireField$Pen" cc ret nL rm) (hex : ¬ ex) {q : Nat} {fs : List Value} {v : Value} (hq : σ[q]? = some (.inr (2, fs))) (hn : narrow (tyX2 4) v = v) (hfit : fits (tyX2 4) v = true) (hl : 4 < fs.length) (hd : decode cc pc = .ok (.putfield 28, 3)) (kk : jW l b D Γ ex cs ss nL (σ.set q (.inr (2, fs.set 4 v))) L (pc + 3) rest) : jW l b D Γ ex cs ss nL σ L pc (v :: .ref (b + q) :: rest) := j_put B hex rfl u_X2 tyX2 tyX2_ok nmX2 4 (by decide) rfl w_64 rfl hq hn hfit hl hd kk
theorem pf_Pe_32 (B : jB l b D ta Γ "WireField$Pen" cc ret nL rm) (hex : ¬ ex) {q : Nat} {fs : List Value} {v : Value} (hq : σ[q]? = some (.inr (2, fs))) (hn : narrow (tyX2 5) v = v) (hfit : fits (tyX2 5) v = true) (hl : 5 < fs.length) (hd : decode cc pc = .ok (.putfield 32, 3)) (kk : jW l b D Γ ex cs ss nL (σ.set q (.inr (2, fs.set 5 v))) L (pc + 3) rest) : jW l b D Γ ex cs ss nL σ L pc (v :: .ref (b + q) :: rest) := j_put B hex rfl u_X2 tyX2 tyX2_ok nmX2 5 (by decide) rfl w_66 rfl hq hn hfit hl hd kk
theorem gf_Pe_32 (B : jB l b D ta Γ "WireField$Pen" cc ret nL rm) {q : Nat} {fs : List Value} {v : Value} (hq : σ[q]? = some (.inr (2, fs))) (hv : fs[5]? = some v) (hd : decode cc pc = .ok (.getfield 32, 3)) (kk : jW l b D Γ ex cs ss nL σ L (pc + 3) (v :: rest)) : jW l b D Γ ex cs ss nL σ L pc (.ref (b + q) :: rest) := j_get B rfl u_X2 5 (by decide) rfl w_66 hq hv hd kk
theorem gf_Pe_25 (B : jB l b D ta Γ "WireField$Pen" cc ret nL rm) {q : Nat} {fs : List Value} {v : Value} (hq : σ[q]? = some (.inr (2, fs))) (hv : fs[3]? = some v) (hd : decode cc pc = .ok (.getfield 25, 3)) (kk : jW l b D Γ ex cs ss nL σ L (pc + 3) (v :: rest)) : jW l b D Γ ex cs ss nL σ L pc (.ref (b + q) :: rest) := j_get B rfl u_X2 3 (by decide) rfl w_62 hq hv hd kk
theorem gf_Pe_18 (B : jB l b D ta Γ "WireField$Pen" cc ret nL rm) {q : Nat} {fs : List Value} {v : Value} (hq : σ[q]? = some (.inr (2, fs))) (hv : fs[1]? = some v) (hd : decode cc pc = .ok (.getfield 18, 3)) (kk : jW l b D Γ ex cs ss nL σ L (pc + 3) (v :: rest)) : jW l b D Γ ex cs ss nL σ L pc (.ref (b + q) :: rest) := j_get B rfl u_X2 1 (by decide) rfl w_58 hq hv hd kk
theorem gf_Pe_22 (B : jB l b D ta Γ "WireField$Pen" cc ret nL rm) {q : Nat} {fs : List Value} {v : Value} (hq : σ[q]? = some (.inr (2, fs))) (hv : fs[2]? = some v) (hd : decode cc pc = .ok (.getfield 22, 3)) (kk : jW l b D Γ ex cs ss nL σ L (pc + 3) (v :: rest)) : jW l b D Γ ex cs ss nL σ L pc (.ref (b + q) :: rest) := j_get B rfl u_X2 2 (by decide) rfl w_60 hq hv hd kk
theorem gf_Pe_28 (B : jB l b D ta Γ "WireField$Pen" cc ret nL rm) {q : Nat} {fs : List Value} {v : Value} (hq : σ[q]? = some (.inr (2, fs))) (hv : fs[4]? = some v) (hd : decode cc pc = .ok (.getfield 28, 3)) (kk : jW l b D Γ ex cs ss nL σ L (pc + 3) (v :: rest)) : jW l b D Γ ex cs ss nL σ L pc (.ref (b + q) :: rest) := j_get B rfl u_X2 4 (by decide) rfl w_64 hq hv hd kk
theorem pc_Pr_9 (B : jB l b D ta Γ "WireField$Probe" cc ret nL rm) {q : Nat} {fs : List Value} {v : Value} (hq : σ[q]? = some (.inr (3, fs))) (hn : narrow (tyX3 0) v = v) (hfit : fits (tyX3 0) v = true) (hl : 0 < fs.length) (hd : decode cc pc = .ok (.putfield 9, 3)) (kk : jW l b D Γ ex cs ss nL (σ.set q (.inr (3, fs.set 0 v))) L (pc + 3) rest) : jW l b D Γ ex cs ss nL σ L pc (v :: .ref (b + q) :: rest) := j_putX B rfl u_X3 tyX3 tyX3_ok nmX3 0 (by decide) rfl w_131 rfl hq hn hfit hl hd kk
theorem pc_Pr_15 (B : jB l b D ta Γ "WireField$Probe" cc ret nL rm) {q : Nat} {fs : List Value} {v : Value} (hq : σ[q]? = some (.inr (3, fs))) (hn : narrow (tyX3 1) v = v) (hfit : fits (tyX3 1) v = true) (hl : 1 < fs.length) (hd : decode cc pc = .ok (.putfield 15, 3)) (kk : jW l b D Γ ex cs ss nL (σ.set q (.inr (3, fs.set 1 v))) L (pc + 3) rest) : jW l b D Γ ex cs ss nL σ L pc (v :: .ref (b + q) :: rest) := j_putX B rfl u_X3 tyX3 tyX3_ok nmX3 1 (by decide) rfl w_132 rfl hq hn hfit hl hd kk
theorem pc_Pr_18 (B : jB l b D ta Γ "WireField$Probe" cc ret nL rm) {q : Nat} {fs : List Value} {v : Value} (hq : σ[q]? = some (.inr (3, fs))) (hn : narrow (tyX3 2) v = v) (hfit : fits (tyX3 2) v = true) (hl : 2 < fs.length) (hd : decode cc pc = .ok (.putfield 18, 3)) (kk : jW l b D Γ ex cs ss nL (σ.set q (.inr (3, fs.set 2 v))) L (pc + 3) rest) : jW l b D Γ ex cs ss nL σ L pc (v :: .ref (b + q) :: rest) := j_putX B rfl u_X3 tyX3 tyX3_ok nmX3 2 (by decide) rfl w_133 rfl hq hn hfit hl hd kk
theorem pc_Pr_21 (B : jB l b D ta Γ "WireField$Probe" cc ret nL rm) {q : Nat} {fs : List Value} {v : Value} (hq : σ[q]? = some (.inr (3, fs))) (hn : narrow (tyX3 3) v = v) (hfit : fits (tyX3 3) v = true) (hl : 3 < fs.length) (hd : decode cc pc = .ok (.putfield 21, 3)) (kk : jW l b D Γ ex cs ss nL (σ.set q (.inr (3, fs.set 3 v))) L (pc + 3) rest) : jW l b D Γ ex cs ss nL σ L pc (v :: .ref (b + q) :: rest) := j_putX B rfl u_X3 tyX3 tyX3_ok nmX3 3 (by decide) rfl w_135 rfl hq hn hfit hl hd kk
theorem pc_Pr_24 (B : jB l b D ta Γ "WireField$Probe" cc ret nL rm) {q : Nat} {fs : List Value} {v : Value} (hq : σ[q]? = some (.inr (3, fs))) (hn : narrow (tyX3 4) v = v) (hfit : fits (tyX3 4) v = true) (hl : 4 < fs.length) (hd : decode cc pc = .ok (.putfield 24, 3)) (kk : jW l b D Γ ex cs ss nL (σ.set q (.inr (3, fs.set 4 v))) L (pc + 3) rest) : jW l b D Γ ex cs ss nL σ L pc (v :: .ref (b + q) :: rest) := j_putX B rfl u_X3 tyX3 tyX3_ok nmX3 4 (by decide) rfl w_137 rfl hq hn hfit hl hd kk
theorem pf_Pr_9 (B : jB l b D ta Γ "WireField$Probe" cc ret nL rm) (hex : ¬ ex) {q : Nat} {fs : List Value} {v : Value} (hq : σ[q]? = some (.inr (3, fs))) (hn : narrow (tyX3 0) v = v) (hfit : fits (tyX3 0) v = true) (hl : 0 < fs.length) (hd : decode cc pc = .ok (.putfield 9, 3)) (kk : jW l b D Γ ex cs ss nL (σ.set q (.inr (3, fs.set 0 v))) L (pc + 3) rest) : jW l b D Γ ex cs ss nL σ L pc (v :: .ref (b + q) :: rest) := j_put B hex rfl u_X3 tyX3 tyX3_ok nmX3 0 (by decide) rfl w_131 rfl hq hn hfit hl hd kk
theorem pf_Pr_15 (B : jB l b D ta Γ "WireField$Probe" cc ret nL rm) (hex : ¬ ex) {q : Nat} {fs : List Value} {v : Value} (hq : σ[q]? = some (.inr (3, fs))) (hn : narrow (tyX3 1) v = v) (hfit : fits (tyX3 1) v = true) (hl : 1 < fs.length) (hd : decode cc pc = .ok (.putfield 15, 3)) (kk : jW l b D Γ ex cs ss nL (σ.set q (.inr (3, fs.set 1 v))) L (pc + 3) rest) : jW l b D Γ ex cs ss nL σ L pc (v :: .ref (b + q) :: rest) := j_put B hex rfl u_X3 tyX3 tyX3_ok nmX3 1 (by decide) rfl w_132 rfl hq hn hfit hl hd kk
theorem gf_Pr_9 (B : jB l b D ta Γ "WireField$Probe" cc ret nL rm) {q : Nat} {fs : List Value} {v : Value} (hq : σ[q]? = some (.inr (3, fs))) (hv : fs[0]? = some v) (hd : decode cc pc = .ok (.getfield 9, 3)) (kk : jW l b D Γ ex cs ss nL σ L (pc + 3) (v :: rest)) : jW l b D Γ ex cs ss nL σ L pc (.ref (b + q) :: rest) := j_get B rfl u_X3 0 (by decide) rfl w_131 hq hv hd kk
theorem gf_Pr_15 (B : jB l b D ta Γ "WireField$Probe" cc ret nL rm) {q : Nat} {fs : List Value} {v : Value} (hq : σ[q]? = some (.inr (3, fs))) (hv : fs[1]? = some v) (hd : decode cc pc = .ok (.getfield 15, 3)) (kk : jW l b D Γ ex cs ss nL σ L (pc + 3) (v :: rest)) : jW l b D Γ ex cs ss nL σ L pc (.ref (b + q) :: rest) := j_get B rfl u_X3 1 (by decide) rfl w_132 hq hv hd kk
theorem gf_Pr_24 (B : jB l b D ta Γ "WireField$Probe" cc ret nL rm) {q : Nat} {fs : List Value} {v : Value} (hq : σ[q]? = some (.inr (3, fs))) (hv : fs[4]? = some v) (hd : decode cc pc = .ok (.getfield 24, 3)) (kk : jW l b D Γ ex cs ss nL σ L (pc + 3) (v :: rest)) : jW l b D Γ ex cs ss nL σ L pc (.ref (b + q) :: rest) := j_get B rfl u_X3 4 (by decide) rfl w_137 hq hv hd kk
theorem pf_Pr_24 (B : jB l b D ta Γ "WireField$Probe" cc ret nL rm) (hex : ¬ ex) {q : Nat} {fs : List Value} {v : Value} (hq : σ[q]? = some (.inr (3, fs))) (hn : narrow (tyX3 4) v = v) (hfit : fits (tyX3 4) v = true) (hl : 4 < fs.length) (hd : decode cc pc = .ok (.putfield 24, 3)) (kk : jW l b D Γ ex cs ss nL (σ.set q (.inr (3, fs.set 4 v))) L (pc + 3) rest) : jW l b D Γ ex cs ss nL σ L pc (v :: .ref (b + q) :: rest) := j_put B hex rfl u_X3 tyX3 tyX3_ok nmX3 4 (by decide) rfl w_137 rfl hq hn hfit hl hd kk
theorem gf_Pr_18 (B : jB l b D ta Γ "WireField$Probe" cc ret nL rm) {q : Nat} {fs : List Value} {v : Value} (hq : σ[q]? = some (.inr (3, fs))) (hv : fs[2]? = some v) (hd : decode cc pc = .ok (.getfield 18, 3)) (kk : jW l b D Γ ex cs ss nL σ L (pc + 3) (v :: rest)) : jW l b D Γ ex cs ss nL σ L pc (.ref (b + q) :: rest) := j_get B rfl u_X3 2 (by decide) rfl w_133 hq hv hd kk
theorem pf_Pr_18 (B : jB l b D ta Γ "WireField$Probe" cc ret nL rm) (hex : ¬ ex) {q : Nat} {fs : List Value} {v : Value} (hq : σ[q]? = some (.inr (3, fs))) (hn : narrow (tyX3 2) v = v) (hfit : fits (tyX3 2) v = true) (hl : 2 < fs.length) (hd : decode cc pc = .ok (.putfield 18, 3)) (kk : jW l b D Γ ex cs ss nL (σ.set q (.inr (3, fs.set 2 v))) L (pc + 3) rest) : jW l b D Γ ex cs ss nL σ L pc (v :: .ref (b + q) :: rest) := j_put B hex rfl u_X3 tyX3 tyX3_ok nmX3 2 (by decide) rfl w_133 rfl hq hn hfit hl hd kk
theorem pf_Pr_21 (B : jB l b D ta Γ "WireField$Probe" cc ret nL rm) (hex : ¬ ex) {q : Nat} {fs : List Value} {v : Value} (hq : σ[q]? = some (.inr (3, fs))) (hn : narrow (tyX3 3) v = v) (hfit : fits (tyX3 3) v = true) (hl : 3 < fs.length) (hd : decode cc pc = .ok (.putfield 21, 3)) (kk : jW l b D Γ ex cs ss nL (σ.set q (.inr (3, fs.set 3 v))) L (pc + 3) rest) : jW l b D Γ ex cs ss nL σ L pc (v :: .ref (b + q) :: rest) := j_put B hex rfl u_X3 tyX3 tyX3_ok nmX3 3 (by decide) rfl w_135 rfl hq hn hfit hl hd kk
theorem pc_So_9 (B : jB l b D ta Γ "WireField$Source" cc ret nL rm) {q : Nat} {fs : List Value} {v : Value} (hq : σ[q]? = some (.inr (4, fs))) (hn : narrow (tyX4 0) v = v) (hfit : fits (tyX4 0) v = true) (hl : 0 < fs.length) (hd : decode cc pc = .ok (.putfield 9, 3)) (kk : jW l b D Γ ex cs ss nL (σ.set q (.inr (4, fs.set 0 v))) L (pc + 3) rest) : jW l b D Γ ex cs ss nL σ L pc (v :: .ref (b + q) :: rest) := j_putX B rfl u_X4 tyX4 tyX4_ok nmX4 0 (by decide) rfl w_108 rfl hq hn hfit hl hd kk
theorem pc_So_15 (B : jB l b D ta Γ "WireField$Source" cc ret nL rm) {q : Nat} {fs : List Value} {v : Value} (hq : σ[q]? = some (.inr (4, fs))) (hn : narrow (tyX4 1) v = v) (hfit : fits (tyX4 1) v = true) (hl : 1 < fs.length) (hd : decode cc pc = .ok (.putfield 15, 3)) (kk : jW l b D Γ ex cs ss nL (σ.set q (.inr (4, fs.set 1 v))) L (pc + 3) rest) : jW l b D Γ ex cs ss nL σ L pc (v :: .ref (b + q) :: rest) := j_putX B rfl u_X4 tyX4 tyX4_ok nmX4 1 (by decide) rfl w_109 rfl hq hn hfit hl hd kk
theorem pc_So_18 (B : jB l b D ta Γ "WireField$Source" cc ret nL rm) {q : Nat} {fs : List Value} {v : Value} (hq : σ[q]? = some (.inr (4, fs))) (hn : narrow (tyX4 2) v = v) (hfit : fits (tyX4 2) v = true) (hl : 2 < fs.length) (hd : decode cc pc = .ok (.putfield 18, 3)) (kk : jW l b D Γ ex cs ss nL (σ.set q (.inr (4, fs.set 2 v))) L (pc + 3) rest) : jW l b D Γ ex cs ss nL σ L pc (v :: .ref (b + q) :: rest) := j_putX B rfl u_X4 tyX4 tyX4_ok nmX4 2 (by decide) rfl w_110 rfl hq hn hfit hl hd kk
theorem pc_So_22 (B : jB l b D ta Γ "WireField$Source" cc ret nL rm) {q : Nat} {fs : List Value} {v : Value} (hq : σ[q]? = some (.inr (4, fs))) (hn : narrow (tyX4 3) v = v) (hfit : fits (tyX4 3) v = true) (hl : 3 < fs.length) (hd : decode cc pc = .ok (.putfield 22, 3)) (kk : jW l b D Γ ex cs ss nL (σ.set q (.inr (4, fs.set 3 v))) L (pc + 3) rest) : jW l b D Γ ex cs ss nL σ L pc (v :: .ref (b + q) :: rest) := j_putX B rfl u_X4 tyX4 tyX4_ok nmX4 3 (by decide) rfl w_111 rfl hq hn hfit hl hd kk
theorem pc_So_25 (B : jB l b D ta Γ "WireField$Source" cc ret nL rm) {q : Nat} {fs : List Value} {v : Value} (hq : σ[q]? = some (.inr (4, fs))) (hn : narrow (tyX4 4) v = v) (hfit : fits (tyX4 4) v = true) (hl : 4 < fs.length) (hd : decode cc pc = .ok (.putfield 25, 3)) (kk : jW l b D Γ ex cs ss nL (σ.set q (.inr (4, fs.set 4 v))) L (pc + 3) rest) : jW l b D Γ ex cs ss nL σ L pc (v :: .ref (b + q) :: rest) := j_putX B rfl u_X4 tyX4 tyX4_ok nmX4 4 (by decide) rfl w_112 rfl hq hn hfit hl hd kk
theorem pf_So_9 (B : jB l b D ta Γ "WireField$Source" cc ret nL rm) (hex : ¬ ex) {q : Nat} {fs : List Value} {v : Value} (hq : σ[q]? = some (.inr (4, fs))) (hn : narrow (tyX4 0) v = v) (hfit : fits (tyX4 0) v = true) (hl : 0 < fs.length) (hd : decode cc pc = .ok (.putfield 9, 3)) (kk : jW l b D Γ ex cs ss nL (σ.set q (.inr (4, fs.set 0 v))) L (pc + 3) rest) : jW l b D Γ ex cs ss nL σ L pc (v :: .ref (b + q) :: rest) := j_put B hex rfl u_X4 tyX4 tyX4_ok nmX4 0 (by decide) rfl w_108 rfl hq hn hfit hl hd kk
theorem pf_So_15 (B : jB l b D ta Γ "WireField$Source" cc ret nL rm) (hex : ¬ ex) {q : Nat} {fs : List Value} {v : Value} (hq : σ[q]? = some (.inr (4, fs))) (hn : narrow (tyX4 1) v = v) (hfit : fits (tyX4 1) v = true) (hl : 1 < fs.length) (hd : decode cc pc = .ok (.putfield 15, 3)) (kk : jW l b D Γ ex cs ss nL (σ.set q (.inr (4, fs.set 1 v))) L (pc + 3) rest) : jW l b D Γ ex cs ss nL σ L pc (v :: .ref (b + q) :: rest) := j_put B hex rfl u_X4 tyX4 tyX4_ok nmX4 1 (by decide) rfl w_109 rfl hq hn hfit hl hd kk
theorem pf_So_18 (B : jB l b D ta Γ "WireField$Source" cc ret nL rm) (hex : ¬ ex) {q : Nat} {fs : List Value} {v : Value} (hq : σ[q]? = some (.inr (4, fs))) (hn : narrow (tyX4 2) v = v) (hfit : fits (tyX4 2) v = true) (hl : 2 < fs.length) (hd : decode cc pc = .ok (.putfield 18, 3)) (kk : jW l b D Γ ex cs ss nL (σ.set q (.inr (4, fs.set 2 v))) L (pc + 3) rest) : jW l b D Γ ex cs ss nL σ L pc (v :: .ref (b + q) :: rest) := j_put B hex rfl u_X4 tyX4 tyX4_ok nmX4 2 (by decide) rfl w_110 rfl hq hn hfit hl hd kk
theorem pf_So_22 (B : jB l b D ta Γ "WireField$Source" cc ret nL rm) (hex : ¬ ex) {q : Nat} {fs : List Value} {v : Value} (hq : σ[q]? = some (.inr (4, fs))) (hn : narrow (tyX4 3) v = v) (hfit : fits (tyX4 3) v = true) (hl : 3 < fs.length) (hd : decode cc pc = .ok (.putfield 22, 3)) (kk : jW l b D Γ ex cs ss nL (σ.set q (.inr (4, fs.set 3 v))) L (pc + 3) rest) : jW l b D Γ ex cs ss nL σ L pc (v :: .ref (b + q) :: rest) := j_put B hex rfl u_X4 tyX4 tyX4_ok nmX4 3 (by decide) rfl w_111 rfl hq hn hfit hl hd kk
theorem pf_So_25 (B : jB l b D ta Γ "WireField$Source" cc ret nL rm) (hex : ¬ ex) {q : Nat} {fs : List Value} {v : Value} (hq : σ[q]? = some (.inr (4, fs))) (hn : narrow (tyX4 4) v = v) (hfit : fits (tyX4 4) v = true) (hl : 4 < fs.length) (hd : decode cc pc = .ok (.putfield 25, 3)) (kk : jW l b D Γ ex cs ss nL (σ.set q (.inr (4, fs.set 4 v))) L (pc + 3) rest) : jW l b D Γ ex cs ss nL σ L pc (v :: .ref (b + q) :: rest) := j_put B hex rfl u_X4 tyX4 tyX4_ok nmX4 4 (by decide) rfl w_112 rfl hq hn hfit hl hd kk
theorem gf_So_18 (B : jB l b D ta Γ "WireField$Source" cc ret nL rm) {q : Nat} {fs : List Value} {v : Value} (hq : σ[q]? = some (.inr (4, fs))) (hv : fs[2]? = some v) (hd : decode cc pc = .ok (.getfield 18, 3)) (kk : jW l b D Γ ex cs ss nL σ L (pc + 3) (v :: rest)) : jW l b D Γ ex cs ss nL σ L pc (.ref (b + q) :: rest) := j_get B rfl u_X4 2 (by decide) rfl w_110 hq hv hd kk
theorem gf_So_25 (B : jB l b D ta Γ "WireField$Source" cc ret nL rm) {q : Nat} {fs : List Value} {v : Value} (hq : σ[q]? = some (.inr (4, fs))) (hv : fs[4]? = some v) (hd : decode cc pc = .ok (.getfield 25, 3)) (kk : jW l b D Γ ex cs ss nL σ L (pc + 3) (v :: rest)) : jW l b D Γ ex cs ss nL σ L pc (.ref (b + q) :: rest) := j_get B rfl u_X4 4 (by decide) rfl w_112 hq hv hd kk
theorem gf_So_9 (B : jB l b D ta Γ "WireField$Source" cc ret nL rm) {q : Nat} {fs : List Value} {v : Value} (hq : σ[q]? = some (.inr (4, fs))) (hv : fs[0]? = some v) (hd : decode cc pc = .ok (.getfield 9, 3)) (kk : jW l b D Γ ex cs ss nL σ L (pc + 3) (v :: rest)) : jW l b D Γ ex cs ss nL σ L pc (.ref (b + q) :: rest) := j_get B rfl u_X4 0 (by decide) rfl w_108 hq hv hd kk
theorem gf_So_15 (B : jB l b D ta Γ "WireField$Source" cc ret nL rm) {q : Nat} {fs : List Value} {v : Value} (hq : σ[q]? = some (.inr (4, fs))) (hv : fs[1]? = some v) (hd : decode cc pc = .ok (.getfield 15, 3)) (kk : jW l b D Γ ex cs ss nL σ L (pc + 3) (v :: rest)) : jW l b D Γ ex cs ss nL σ L pc (.ref (b + q) :: rest) := j_get B rfl u_X4 1 (by decide) rfl w_109 hq hv hd kk
theorem gf_So_22 (B : jB l b D ta Γ "WireField$Source" cc ret nL rm) {q : Nat} {fs : List Value} {v : Value} (hq : σ[q]? = some (.inr (4, fs))) (hv : fs[3]? = some v) (hd : decode cc pc = .ok (.getfield 22, 3)) (kk : jW l b D Γ ex cs ss nL σ L (pc + 3) (v :: rest)) : jW l b D Γ ex cs ss nL σ L pc (.ref (b + q) :: rest) := j_get B rfl u_X4 3 (by decide) rfl w_111 hq hv hd kk
theorem pc_Tx_9 (B : jB l b D ta Γ "WireField$Text" cc ret nL rm) (hme : Γ.2.2.2.2.2.2.2.1.name = "<init>") {q : Nat} {fs : List Value} {v : Value} (hq : σ[q]? = some (.inr (5, fs))) (hn : narrow (tyX5 0) v = v) (hfit : fits (tyX5 0) v = true) (hl : 0 < fs.length) (hd : decode cc pc = .ok (.putfield 9, 3)) (kk : jW l b D Γ ex cs ss nL (σ.set q (.inr (5, fs.set 0 v))) L (pc + 3) rest) : jW l b D Γ ex cs ss nL σ L pc (v :: .ref (b + q) :: rest) := j_putF B hme rfl u_X5 tyX5 tyX5_ok nmX5 0 (by decide) rfl w_87 rfl rfl hq hn hfit hl hd kk
theorem pc_Tx_15 (B : jB l b D ta Γ "WireField$Text" cc ret nL rm) {q : Nat} {fs : List Value} {v : Value} (hq : σ[q]? = some (.inr (5, fs))) (hn : narrow (tyX5 1) v = v) (hfit : fits (tyX5 1) v = true) (hl : 1 < fs.length) (hd : decode cc pc = .ok (.putfield 15, 3)) (kk : jW l b D Γ ex cs ss nL (σ.set q (.inr (5, fs.set 1 v))) L (pc + 3) rest) : jW l b D Γ ex cs ss nL σ L pc (v :: .ref (b + q) :: rest) := j_putX B rfl u_X5 tyX5 tyX5_ok nmX5 1 (by decide) rfl w_88 rfl hq hn hfit hl hd kk
theorem gf_Tx_15 (B : jB l b D ta Γ "WireField$Text" cc ret nL rm) {q : Nat} {fs : List Value} {v : Value} (hq : σ[q]? = some (.inr (5, fs))) (hv : fs[1]? = some v) (hd : decode cc pc = .ok (.getfield 15, 3)) (kk : jW l b D Γ ex cs ss nL σ L (pc + 3) (v :: rest)) : jW l b D Γ ex cs ss nL σ L pc (.ref (b + q) :: rest) := j_get B rfl u_X5 1 (by decide) rfl w_88 hq hv hd kk
theorem gf_Tx_9 (B : jB l b D ta Γ "WireField$Text" cc ret nL rm) {q : Nat} {fs : List Value} {v : Value} (hq : σ[q]? = some (.inr (5, fs))) (hv : fs[0]? = some v) (hd : decode cc pc = .ok (.getfield 9, 3)) (kk : jW l b D Γ ex cs ss nL σ L (pc + 3) (v :: rest)) : jW l b D Γ ex cs ss nL σ L pc (.ref (b + q) :: rest) := j_get B rfl u_X5 0 (by decide) rfl w_87 hq hv hd kk
theorem pf_Tx_15 (B : jB l b D ta Γ "WireField$Text" cc ret nL rm) (hex : ¬ ex) {q : Nat} {fs : List Value} {v : Value} (hq : σ[q]? = some (.inr (5, fs))) (hn : narrow (tyX5 1) v = v) (hfit : fits (tyX5 1) v = true) (hl : 1 < fs.length) (hd : decode cc pc = .ok (.putfield 15, 3)) (kk : jW l b D Γ ex cs ss nL (σ.set q (.inr (5, fs.set 1 v))) L (pc + 3) rest) : jW l b D Γ ex cs ss nL σ L pc (v :: .ref (b + q) :: rest) := j_put B hex rfl u_X5 tyX5 tyX5_ok nmX5 1 (by decide) rfl w_88 rfl hq hn hfit hl hd kk
end FF
theorem yf_WF_init : jY y_WF_init prog_1_method_1_code 2 none 0 := ⟨w_27, w_1, by decide, by decide, by decide +kernel⟩
theorem yf_WF_type : jY y_WF_type prog_1_method_2_code 2 (some .boolean) 1 := ⟨w_209, w_1, by decide, by decide, by decide +kernel⟩
theorem yf_WF_draw : jY y_WF_draw prog_1_method_3_code 4 (some .int) 3 := ⟨w_370, w_1, by decide, by decide, by decide +kernel⟩
theorem yf_WF_macro : jY y_WF_macro prog_1_method_4_code 2 none 1 := ⟨w_676, w_1, by decide, by decide, by decide +kernel⟩
theorem yf_WF_wipe : jY y_WF_wipe prog_1_method_5_code 1 none 0 := ⟨w_217, w_1, by decide, by decide, by decide +kernel⟩
theorem yf_WF_set : jY y_WF_set prog_1_method_6_code 4 (some .boolean) 3 := ⟨w_225, w_1, by decide, by decide, by decide +kernel⟩
theorem yf_WF_cell : jY y_WF_cell prog_1_method_7_code 3 (some .int) 2 := ⟨w_241, w_1, by decide, by decide, by decide +kernel⟩
theorem yf_WF_copy : jY y_WF_copy prog_1_method_8_code 11 (some .boolean) 7 := ⟨w_249, w_1, by decide, by decide, by decide +kernel⟩
theorem yf_WF_source : jY y_WF_source prog_1_method_9_code 6 (some .int) 4 := ⟨w_273, w_1, by decide, by decide, by decide +kernel⟩
theorem yf_WF_probe : jY y_WF_probe prog_1_method_10_code 3 (some .int) 2 := ⟨w_281, w_1, by decide, by decide, by decide +kernel⟩
theorem yf_WF_run : jY y_WF_run prog_1_method_11_code 3 (some .int) 1 := ⟨w_289, w_1, by decide, by decide, by decide +kernel⟩
theorem yf_WF_back : jY y_WF_back prog_1_method_12_code 4 (some .boolean) 1 := ⟨w_344, w_1, by decide, by decide, by decide +kernel⟩
theorem yf_WF_period : jY y_WF_period prog_1_method_13_code 2 (some .int) 0 := ⟨w_348, w_1, by decide, by decide, by decide +kernel⟩
theorem yf_WF_seen : jY y_WF_seen prog_1_method_14_code 3 (some .int) 2 := ⟨w_690, w_1, by decide, by decide, by decide +kernel⟩
theorem yf_WF_record : jY y_WF_record prog_1_method_15_code 2 (some .long) 1 := ⟨w_356, w_1, by decide, by decide, by decide +kernel⟩
theorem yf_WF_look : jY y_WF_look prog_1_method_16_code 2 (some .int) 1 := ⟨w_360, w_1, by decide, by decide, by decide +kernel⟩
theorem yf_WF_isWithin : jY y_WF_isWithin prog_1_method_17_code 2 (some .boolean) 2 := ⟨w_228, w_1, by decide, by decide, by decide +kernel⟩
theorem yf_WF_isPiece : jY y_WF_isPiece prog_1_method_18_code 4 (some .boolean) 4 := ⟨w_252, w_1, by decide, by decide, by decide +kernel⟩
theorem yf_WF_putTurned : jY y_WF_putTurned prog_1_method_19_code 13 none 7 := ⟨w_263, w_1, by decide, by decide, by decide +kernel⟩
theorem yf_WF_turnedX : jY y_WF_turnedX prog_1_method_20_code 5 (some .int) 5 := ⟨w_266, w_1, by decide, by decide, by decide +kernel⟩
theorem yf_WF_turnedY : jY y_WF_turnedY prog_1_method_21_code 5 (some .int) 5 := ⟨w_269, w_1, by decide, by decide, by decide +kernel⟩
theorem yf_WF_forgetHistory : jY y_WF_forgetHistory prog_1_method_22_code 1 none 0 := ⟨w_237, w_1, by decide, by decide, by decide +kernel⟩
theorem yf_WF_momentAt : jY y_WF_momentAt prog_1_method_23_code 2 (some (.object "WireField$Moment")) 1 := ⟨w_301, w_1, by decide, by decide, by decide +kernel⟩
theorem yf_WF_makeGeneration : jY y_WF_makeGeneration prog_1_method_24_code 2 none 0 := ⟨w_293, w_1, by decide, by decide, by decide +kernel⟩
theorem yf_WF_keepMoment : jY y_WF_keepMoment prog_1_method_25_code 3 none 0 := ⟨w_297, w_1, by decide, by decide, by decide +kernel⟩
theorem yf_WF_macrosOfLineAreThere : jY y_WF_macrosOfLineAreThere prog_1_method_26_code 3 (some .boolean) 0 := ⟨w_555, w_1, by decide, by decide, by decide +kernel⟩
theorem yf_WF_perform : jY y_WF_perform prog_1_method_27_code 11 (some .boolean) 4 := ⟨w_584, w_1, by decide, by decide, by decide +kernel⟩
theorem yf_WF_performOrder : jY y_WF_performOrder prog_1_method_28_code 5 (some .boolean) 4 := ⟨w_597, w_1, by decide, by decide, by decide +kernel⟩
theorem yf_WF_performBranch : jY y_WF_performBranch prog_1_method_29_code 10 (some .boolean) 4 := ⟨w_606, w_1, by decide, by decide, by decide +kernel⟩
theorem yf_WF_performMacro : jY y_WF_performMacro prog_1_method_30_code 3 (some .boolean) 2 := ⟨w_610, w_1, by decide, by decide, by decide +kernel⟩
theorem yf_M_init : jY y_M_init prog_9_method_1_code 2 none 0 := ⟨w_696, w_8, by decide, by decide, by decide +kernel⟩
theorem yf_M_thrown : jY y_M_thrown prog_9_method_2_code 1 (some .int) 0 := ⟨w_832, w_8, by decide, by decide, by decide +kernel⟩
theorem yf_M_is : jY y_M_is prog_9_method_3_code 2 (some .boolean) 2 := ⟨w_901, w_8, by decide, by decide, by decide +kernel⟩
theorem yf_M_bit : jY y_M_bit prog_9_method_4_code 2 (some .int) 2 := ⟨w_855, w_8, by decide, by decide, by decide +kernel⟩
theorem yf_M_headsIn : jY y_M_headsIn prog_9_method_5_code 2 (some .int) 1 := ⟨w_852, w_8, by decide, by decide, by decide +kernel⟩
theorem yf_M_lit : jY y_M_lit prog_9_method_6_code 9 (some .int) 1 := ⟨w_848, w_8, by decide, by decide, by decide +kernel⟩
theorem yf_M_keep : jY y_M_keep prog_9_method_7_code 2 none 0 := ⟨w_844, w_8, by decide, by decide, by decide +kernel⟩
theorem yf_M_generation : jY y_M_generation prog_9_method_8_code 3 none 0 := ⟨w_840, w_8, by decide, by decide, by decide +kernel⟩
theorem yf_M_run : jY y_M_run prog_9_method_9_code 3 (some .int) 1 := ⟨w_836, w_8, by decide, by decide, by decide +kernel⟩
theorem yf_M_back : jY y_M_back prog_9_method_10_code 3 (some .boolean) 1 := ⟨w_864, w_8, by decide, by decide, by decide +kernel⟩
theorem yf_M_period : jY y_M_period prog_9_method_11_code 5 (some .int) 0 := ⟨w_868, w_8, by decide, by decide, by decide +kernel⟩
theorem yf_M_type : jY y_M_type prog_9_method_12_code 2 (some .boolean) 1 := ⟨w_872, w_8, by decide, by decide, by decide +kernel⟩
theorem yf_M_wipe : jY y_M_wipe prog_9_method_13_code 1 none 0 := ⟨w_876, w_8, by decide, by decide, by decide +kernel⟩
theorem yf_M_sign : jY y_M_sign prog_9_method_14_code 3 (some .int) 2 := ⟨w_888, w_8, by decide, by decide, by decide +kernel⟩
theorem yf_M_digit : jY y_M_digit prog_9_method_15_code 1 (some .boolean) 1 := ⟨w_891, w_8, by decide, by decide, by decide +kernel⟩
theorem yf_M_single : jY y_M_single prog_9_method_16_code 1 (some .boolean) 1 := ⟨w_894, w_8, by decide, by decide, by decide +kernel⟩
theorem yf_M_reads : jY y_M_reads prog_9_method_17_code 9 (some .boolean) 0 := ⟨w_884, w_8, by decide, by decide, by decide +kernel⟩
theorem yf_M_complete : jY y_M_complete prog_9_method_18_code 3 (some .boolean) 0 := ⟨w_905, w_8, by decide, by decide, by decide +kernel⟩
theorem yf_M_macro : jY y_M_macro prog_9_method_19_code 3 none 1 := ⟨w_880, w_8, by decide, by decide, by decide +kernel⟩
theorem yf_M_across : jY y_M_across prog_9_method_20_code 1 (some .int) 1 := ⟨w_940, w_8, by decide, by decide, by decide +kernel⟩
theorem yf_M_down : jY y_M_down prog_9_method_21_code 1 (some .int) 1 := ⟨w_943, w_8, by decide, by decide, by decide +kernel⟩
theorem yf_M_countOne : jY y_M_countOne prog_9_method_22_code 1 none 0 := ⟨w_921, w_8, by decide, by decide, by decide +kernel⟩
theorem yf_M_put : jY y_M_put prog_9_method_23_code 5 none 3 := ⟨w_947, w_8, by decide, by decide, by decide +kernel⟩
theorem yf_M_step : jY y_M_step prog_9_method_24_code 8 none 3 := ⟨w_937, w_8, by decide, by decide, by decide +kernel⟩
theorem yf_M_obey : jY y_M_obey prog_9_method_25_code 4 none 1 := ⟨w_933, w_8, by decide, by decide, by decide +kernel⟩
theorem yf_M_open : jY y_M_open prog_9_method_26_code 5 none 4 := ⟨w_925, w_8, by decide, by decide, by decide +kernel⟩
theorem yf_M_again : jY y_M_again prog_9_method_27_code 2 none 0 := ⟨w_917, w_8, by decide, by decide, by decide +kernel⟩
theorem yf_M_comeBack : jY y_M_comeBack prog_9_method_28_code 2 none 0 := ⟨w_913, w_8, by decide, by decide, by decide +kernel⟩
theorem yf_M_behind : jY y_M_behind prog_9_method_29_code 6 (some .int) 2 := ⟨w_929, w_8, by decide, by decide, by decide +kernel⟩
theorem yf_M_goThrough : jY y_M_goThrough prog_9_method_30_code 6 none 0 := ⟨w_909, w_8, by decide, by decide, by decide +kernel⟩
theorem yf_M_draw : jY y_M_draw prog_9_method_31_code 5 (some .int) 3 := ⟨w_898, w_8, by decide, by decide, by decide +kernel⟩
theorem yf_M_change : jY y_M_change prog_9_method_32_code 5 none 3 := ⟨w_955, w_8, by decide, by decide, by decide +kernel⟩
theorem yf_M_set : jY y_M_set prog_9_method_33_code 4 (some .boolean) 3 := ⟨w_951, w_8, by decide, by decide, by decide +kernel⟩
theorem yf_M_cell : jY y_M_cell prog_9_method_34_code 3 (some .int) 2 := ⟨w_959, w_8, by decide, by decide, by decide +kernel⟩
theorem yf_M_copy : jY y_M_copy prog_9_method_35_code 18 (some .boolean) 7 := ⟨w_963, w_8, by decide, by decide, by decide +kernel⟩
theorem yf_M_source : jY y_M_source prog_9_method_36_code 6 (some .int) 4 := ⟨w_967, w_8, by decide, by decide, by decide +kernel⟩
theorem yf_M_probe : jY y_M_probe prog_9_method_37_code 3 (some .int) 2 := ⟨w_971, w_8, by decide, by decide, by decide +kernel⟩
theorem yf_M_seen : jY y_M_seen prog_9_method_38_code 3 (some .int) 2 := ⟨w_975, w_8, by decide, by decide, by decide +kernel⟩
theorem yf_M_record : jY y_M_record prog_9_method_39_code 2 (some .long) 1 := ⟨w_979, w_8, by decide, by decide, by decide +kernel⟩
theorem yf_M_count : jY y_M_count prog_9_method_40_code 5 (some .int) 1 := ⟨w_860, w_8, by decide, by decide, by decide +kernel⟩
theorem yf_M_look : jY y_M_look prog_9_method_41_code 2 (some .int) 1 := ⟨w_983, w_8, by decide, by decide, by decide +kernel⟩
theorem yf_G_init : jY y_G_init prog_2_method_1_code 1 none 0 := ⟨w_35, w_2, by decide, by decide, by decide +kernel⟩
theorem yf_G_valueAt : jY y_G_valueAt prog_2_method_2_code 3 (some .int) 2 := ⟨w_245, w_2, by decide, by decide, by decide +kernel⟩
theorem yf_G_put : jY y_G_put prog_2_method_3_code 5 none 3 := ⟨w_232, w_2, by decide, by decide, by decide +kernel⟩
theorem yf_G_takeFrom : jY y_G_takeFrom prog_2_method_4_code 2 none 1 := ⟨w_256, w_2, by decide, by decide, by decide +kernel⟩
theorem yf_G_isSameAs : jY y_G_isSameAs prog_2_method_5_code 3 (some .boolean) 1 := ⟨w_352, w_2, by decide, by decide, by decide +kernel⟩
theorem yf_G_count : jY y_G_count prog_2_method_6_code 5 (some .int) 1 := ⟨w_334, w_2, by decide, by decide, by decide +kernel⟩
theorem yf_G_becomeGenerationAfter : jY y_G_becomeGenerationAfter prog_2_method_7_code 4 none 1 := ⟨w_317, w_2, by decide, by decide, by decide +kernel⟩
theorem yf_G_besideOneOrTwoHeads : jY y_G_besideOneOrTwoHeads prog_2_method_8_code 8 (some .int) 1 := ⟨w_321, w_2, by decide, by decide, by decide +kernel⟩
theorem yf_Mo_init : jY y_Mo_init prog_3_method_1_code 1 none 0 := ⟨w_153, w_7, by decide, by decide, by decide +kernel⟩
theorem yf_Pe_init : jY y_Pe_init prog_4_method_1_code 1 none 0 := ⟨w_52, w_3, by decide, by decide, by decide +kernel⟩
theorem yf_Pe_begin : jY y_Pe_begin prog_4_method_2_code 5 none 4 := ⟨w_579, w_3, by decide, by decide, by decide +kernel⟩
theorem yf_Pe_countOrder : jY y_Pe_countOrder prog_4_method_3_code 1 (some .boolean) 0 := ⟨w_601, w_3, by decide, by decide, by decide +kernel⟩
theorem yf_Pe_obey : jY y_Pe_obey prog_4_method_4_code 2 (some .boolean) 1 := ⟨w_614, w_3, by decide, by decide, by decide +kernel⟩
theorem yf_Pe_columnAt : jY y_Pe_columnAt prog_4_method_5_code 3 (some .int) 2 := ⟨w_626, w_3, by decide, by decide, by decide +kernel⟩
theorem yf_Pe_rowAt : jY y_Pe_rowAt prog_4_method_6_code 3 (some .int) 2 := ⟨w_632, w_3, by decide, by decide, by decide +kernel⟩
theorem yf_Pe_hasCell : jY y_Pe_hasCell prog_4_method_7_code 3 (some .boolean) 2 := ⟨w_653, w_3, by decide, by decide, by decide +kernel⟩
theorem yf_Pe_mark : jY y_Pe_mark prog_4_method_8_code 3 none 2 := ⟨w_639, w_3, by decide, by decide, by decide +kernel⟩
theorem yf_Pe_move : jY y_Pe_move prog_4_method_9_code 4 (some .boolean) 1 := ⟨w_622, w_3, by decide, by decide, by decide +kernel⟩
theorem yf_Pe_drawForward : jY y_Pe_drawForward prog_4_method_10_code 1 (some .boolean) 0 := ⟨w_618, w_3, by decide, by decide, by decide +kernel⟩
theorem yf_Pe_putElectron : jY y_Pe_putElectron prog_4_method_11_code 3 none 0 := ⟨w_644, w_3, by decide, by decide, by decide +kernel⟩
theorem yf_Pe_drawDiode : jY y_Pe_drawDiode prog_4_method_12_code 1 (some .boolean) 0 := ⟨w_649, w_3, by decide, by decide, by decide +kernel⟩
theorem yf_Pr_init : jY y_Pr_init prog_5_method_1_code 1 none 0 := ⟨w_129, w_6, by decide, by decide, by decide +kernel⟩
theorem yf_Pr_begin : jY y_Pr_begin prog_5_method_2_code 3 none 2 := ⟨w_285, w_6, by decide, by decide, by decide +kernel⟩
theorem yf_Pr_lookAt : jY y_Pr_lookAt prog_5_method_3_code 4 none 2 := ⟨w_328, w_6, by decide, by decide, by decide +kernel⟩
theorem yf_So_init : jY y_So_init prog_6_method_1_code 1 none 0 := ⟨w_106, w_5, by decide, by decide, by decide +kernel⟩
theorem yf_So_begin : jY y_So_begin prog_6_method_2_code 6 none 4 := ⟨w_277, w_5, by decide, by decide, by decide +kernel⟩
theorem yf_So_actOn : jY y_So_actOn prog_6_method_3_code 2 none 1 := ⟨w_311, w_5, by decide, by decide, by decide +kernel⟩
theorem yf_Tx_init : jY y_Tx_init prog_7_method_1_code 1 none 0 := ⟨w_85, w_4, by decide, by decide, by decide +kernel⟩
theorem yf_Tx_add : jY y_Tx_add prog_7_method_2_code 2 (some .boolean) 1 := ⟨w_213, w_4, by decide, by decide, by decide +kernel⟩
theorem yf_Tx_clear : jY y_Tx_clear prog_7_method_3_code 1 none 0 := ⟨w_221, w_4, by decide, by decide, by decide +kernel⟩
theorem yf_Tx_takeFrom : jY y_Tx_takeFrom prog_7_method_4_code 2 none 1 := ⟨w_682, w_4, by decide, by decide, by decide +kernel⟩
theorem yf_Tx_signAt : jY y_Tx_signAt prog_7_method_5_code 2 (some .char) 1 := ⟨w_450, w_4, by decide, by decide, by decide +kernel⟩
theorem yf_Tx_digitsAt : jY y_Tx_digitsAt prog_7_method_6_code 2 (some .int) 1 := ⟨w_457, w_4, by decide, by decide, by decide +kernel⟩
theorem yf_Tx_timesAt : jY y_Tx_timesAt prog_7_method_7_code 2 (some .int) 1 := ⟨w_588, w_4, by decide, by decide, by decide +kernel⟩
theorem yf_Tx_isDigit : jY y_Tx_isDigit prog_7_method_8_code 1 (some .boolean) 1 := ⟨w_460, w_4, by decide, by decide, by decide +kernel⟩
theorem yf_Tx_isOrders : jY y_Tx_isOrders prog_7_method_9_code 2 (some .boolean) 1 := ⟨w_442, w_4, by decide, by decide, by decide +kernel⟩
theorem yf_Tx_behindOrder : jY y_Tx_behindOrder prog_7_method_10_code 2 (some .int) 1 := ⟨w_593, w_4, by decide, by decide, by decide +kernel⟩
theorem yf_Tx_heldMacros : jY y_Tx_heldMacros prog_7_method_11_code 4 (some .int) 0 := ⟨w_559, w_4, by decide, by decide, by decide +kernel⟩
theorem yf_Tx_endOfOrders : jY y_Tx_endOfOrders prog_7_method_12_code 6 (some .int) 3 := ⟨w_446, w_4, by decide, by decide, by decide +kernel⟩
theorem yf_Tx_endOfOrder : jY y_Tx_endOfOrder prog_7_method_13_code 6 (some .int) 3 := ⟨w_464, w_4, by decide, by decide, by decide +kernel⟩
theorem yf_Tx_endOfBracket : jY y_Tx_endOfBracket prog_7_method_14_code 6 (some .int) 4 := ⟨w_468, w_4, by decide, by decide, by decide +kernel⟩
theorem yf_Tx_isClosing : jY y_Tx_isClosing prog_7_method_15_code 1 (some .boolean) 1 := ⟨w_453, w_4, by decide, by decide, by decide +kernel⟩
end
section
abbrev b_G_init : ByteArray := prog_2_method_1_code
theorem d_G_init_0 : decode b_G_init 0 = .ok (.aload_n 0, 1) := by decide +kernel
theorem d_G_init_1 : decode b_G_init 1 = .ok (.invokespecial 3, 3) := by decide +kernel
theorem d_G_init_4 : decode b_G_init 4 = .ok (.aload_n 0, 1) := by decide +kernel
theorem d_G_init_5 : decode b_G_init 5 = .ok (.bipush 24, 2) := by decide +kernel
theorem d_G_init_7 : decode b_G_init 7 = .ok (.newarray .int, 2) := by decide +kernel
theorem d_G_init_9 : decode b_G_init 9 = .ok (.putfield 9, 3) := by decide +kernel
theorem d_G_init_12 : decode b_G_init 12 = .ok (.aload_n 0, 1) := by decide +kernel
theorem d_G_init_13 : decode b_G_init 13 = .ok (.bipush 24, 2) := by decide +kernel
theorem d_G_init_15 : decode b_G_init 15 = .ok (.newarray .int, 2) := by decide +kernel
theorem d_G_init_17 : decode b_G_init 17 = .ok (.putfield 15, 3) := by decide +kernel
theorem d_G_init_20 : decode b_G_init 20 = .ok (.aload_n 0, 1) := by decide +kernel
theorem d_G_init_21 : decode b_G_init 21 = .ok (.bipush 24, 2) := by decide +kernel
theorem d_G_init_23 : decode b_G_init 23 = .ok (.newarray .int, 2) := by decide +kernel
theorem d_G_init_25 : decode b_G_init 25 = .ok (.putfield 18, 3) := by decide +kernel
theorem d_G_init_28 : decode b_G_init 28 = .ok (.return_, 1) := by decide +kernel
abbrev b_G_valueAt : ByteArray := prog_2_method_2_code
theorem d_G_valueAt_0 : decode b_G_valueAt 0 = .ok (.iload_n 1, 1) := by decide +kernel
theorem d_G_valueAt_1 : decode b_G_valueAt 1 = .ok (.iload_n 2, 1) := by decide +kernel
theorem d_G_valueAt_2 : decode b_G_valueAt 2 = .ok (.invokestatic 21, 3) := by decide +kernel
theorem d_G_valueAt_5 : decode b_G_valueAt 5 = .ok (.ifCond .ne 5, 3) := by decide +kernel
theorem d_G_valueAt_8 : decode b_G_valueAt 8 = .ok (.iconst (-1), 1) := by decide +kernel
theorem d_G_valueAt_9 : decode b_G_valueAt 9 = .ok (.ireturn, 1) := by decide +kernel
theorem d_G_valueAt_10 : decode b_G_valueAt 10 = .ok (.aload_n 0, 1) := by decide +kernel
theorem d_G_valueAt_11 : decode b_G_valueAt 11 = .ok (.getfield 9, 3) := by decide +kernel
theorem d_G_valueAt_14 : decode b_G_valueAt 14 = .ok (.iload_n 2, 1) := by decide +kernel
theorem d_G_valueAt_15 : decode b_G_valueAt 15 = .ok (.iaload, 1) := by decide +kernel
theorem d_G_valueAt_16 : decode b_G_valueAt 16 = .ok (.iload_n 1, 1) := by decide +kernel
theorem d_G_valueAt_17 : decode b_G_valueAt 17 = .ok (.iushr, 1) := by decide +kernel
theorem d_G_valueAt_18 : decode b_G_valueAt 18 = .ok (.iconst 1, 1) := by decide +kernel
theorem d_G_valueAt_19 : decode b_G_valueAt 19 = .ok (.iand, 1) := by decide +kernel
theorem d_G_valueAt_20 : decode b_G_valueAt 20 = .ok (.iconst 1, 1) := by decide +kernel
theorem d_G_valueAt_21 : decode b_G_valueAt 21 = .ok (.if_icmp .ne 5, 3) := by decide +kernel
theorem d_G_valueAt_24 : decode b_G_valueAt 24 = .ok (.iconst 1, 1) := by decide +kernel
theorem d_G_valueAt_25 : decode b_G_valueAt 25 = .ok (.ireturn, 1) := by decide +kernel
theorem d_G_valueAt_26 : decode b_G_valueAt 26 = .ok (.aload_n 0, 1) := by decide +kernel
theorem d_G_valueAt_27 : decode b_G_valueAt 27 = .ok (.getfield 15, 3) := by decide +kernel
theorem d_G_valueAt_30 : decode b_G_valueAt 30 = .ok (.iload_n 2, 1) := by decide +kernel
theorem d_G_valueAt_31 : decode b_G_valueAt 31 = .ok (.iaload, 1) := by decide +kernel
theorem d_G_valueAt_32 : decode b_G_valueAt 32 = .ok (.iload_n 1, 1) := by decide +kernel
theorem d_G_valueAt_33 : decode b_G_valueAt 33 = .ok (.iushr, 1) := by decide +kernel
theorem d_G_valueAt_34 : decode b_G_valueAt 34 = .ok (.iconst 1, 1) := by decide +kernel
theorem d_G_valueAt_35 : decode b_G_valueAt 35 = .ok (.iand, 1) := by decide +kernel
theorem d_G_valueAt_36 : decode b_G_valueAt 36 = .ok (.iconst 1, 1) := by decide +kernel
theorem d_G_valueAt_37 : decode b_G_valueAt 37 = .ok (.if_icmp .ne 5, 3) := by decide +kernel
theorem d_G_valueAt_40 : decode b_G_valueAt 40 = .ok (.iconst 2, 1) := by decide +kernel
theorem d_G_valueAt_41 : decode b_G_valueAt 41 = .ok (.ireturn, 1) := by decide +kernel
theorem d_G_valueAt_42 : decode b_G_valueAt 42 = .ok (.aload_n 0, 1) := by decide +kernel
theorem d_G_valueAt_43 : decode b_G_valueAt 43 = .ok (.getfield 18, 3) := by decide +kernel
theorem d_G_valueAt_46 : decode b_G_valueAt 46 = .ok (.iload_n 2, 1) := by decide +kernel
theorem d_G_valueAt_47 : decode b_G_valueAt 47 = .ok (.iaload, 1) := by decide +kernel
theorem d_G_valueAt_48 : decode b_G_valueAt 48 = .ok (.iload_n 1, 1) := by decide +kernel
theorem d_G_valueAt_49 : decode b_G_valueAt 49 = .ok (.iushr, 1) := by decide +kernel
theorem d_G_valueAt_50 : decode b_G_valueAt 50 = .ok (.iconst 1, 1) := by decide +kernel
theorem d_G_valueAt_51 : decode b_G_valueAt 51 = .ok (.iand, 1) := by decide +kernel
theorem d_G_valueAt_52 : decode b_G_valueAt 52 = .ok (.iconst 1, 1) := by decide +kernel
theorem d_G_valueAt_53 : decode b_G_valueAt 53 = .ok (.if_icmp .ne 7, 3) := by decide +kernel
theorem d_G_valueAt_56 : decode b_G_valueAt 56 = .ok (.iconst 3, 1) := by decide +kernel
theorem d_G_valueAt_57 : decode b_G_valueAt 57 = .ok (.goto 4, 3) := by decide +kernel
theorem d_G_valueAt_60 : decode b_G_valueAt 60 = .ok (.iconst 0, 1) := by decide +kernel
theorem d_G_valueAt_61 : decode b_G_valueAt 61 = .ok (.ireturn, 1) := by decide +kernel
abbrev b_G_put : ByteArray := prog_2_method_3_code
theorem d_G_put_0 : decode b_G_put 0 = .ok (.iload_n 1, 1) := by decide +kernel
theorem d_G_put_1 : decode b_G_put 1 = .ok (.iload_n 2, 1) := by decide +kernel
theorem d_G_put_2 : decode b_G_put 2 = .ok (.invokestatic 21, 3) := by decide +kernel
theorem d_G_put_5 : decode b_G_put 5 = .ok (.ifCond .ne 4, 3) := by decide +kernel
theorem d_G_put_8 : decode b_G_put 8 = .ok (.return_, 1) := by decide +kernel
theorem d_G_put_9 : decode b_G_put 9 = .ok (.iconst 1, 1) := by decide +kernel
theorem d_G_put_10 : decode b_G_put 10 = .ok (.iload_n 1, 1) := by decide +kernel
theorem d_G_put_11 : decode b_G_put 11 = .ok (.ishl, 1) := by decide +kernel
theorem d_G_put_12 : decode b_G_put 12 = .ok (.istore 4, 2) := by decide +kernel
theorem d_G_put_14 : decode b_G_put 14 = .ok (.aload_n 0, 1) := by decide +kernel
theorem d_G_put_15 : decode b_G_put 15 = .ok (.getfield 9, 3) := by decide +kernel
theorem d_G_put_18 : decode b_G_put 18 = .ok (.iload_n 2, 1) := by decide +kernel
theorem d_G_put_19 : decode b_G_put 19 = .ok (.iload_n 3, 1) := by decide +kernel
theorem d_G_put_20 : decode b_G_put 20 = .ok (.iconst 1, 1) := by decide +kernel
theorem d_G_put_21 : decode b_G_put 21 = .ok (.if_icmp .ne 15, 3) := by decide +kernel
theorem d_G_put_24 : decode b_G_put 24 = .ok (.aload_n 0, 1) := by decide +kernel
theorem d_G_put_25 : decode b_G_put 25 = .ok (.getfield 9, 3) := by decide +kernel
theorem d_G_put_28 : decode b_G_put 28 = .ok (.iload_n 2, 1) := by decide +kernel
theorem d_G_put_29 : decode b_G_put 29 = .ok (.iaload, 1) := by decide +kernel
theorem d_G_put_30 : decode b_G_put 30 = .ok (.iload 4, 2) := by decide +kernel
theorem d_G_put_32 : decode b_G_put 32 = .ok (.ior, 1) := by decide +kernel
theorem d_G_put_33 : decode b_G_put 33 = .ok (.goto 14, 3) := by decide +kernel
theorem d_G_put_36 : decode b_G_put 36 = .ok (.aload_n 0, 1) := by decide +kernel
theorem d_G_put_37 : decode b_G_put 37 = .ok (.getfield 9, 3) := by decide +kernel
theorem d_G_put_40 : decode b_G_put 40 = .ok (.iload_n 2, 1) := by decide +kernel
theorem d_G_put_41 : decode b_G_put 41 = .ok (.iaload, 1) := by decide +kernel
theorem d_G_put_42 : decode b_G_put 42 = .ok (.iload 4, 2) := by decide +kernel
theorem d_G_put_44 : decode b_G_put 44 = .ok (.iconst (-1), 1) := by decide +kernel
theorem d_G_put_45 : decode b_G_put 45 = .ok (.ixor, 1) := by decide +kernel
theorem d_G_put_46 : decode b_G_put 46 = .ok (.iand, 1) := by decide +kernel
theorem d_G_put_47 : decode b_G_put 47 = .ok (.iastore, 1) := by decide +kernel
theorem d_G_put_48 : decode b_G_put 48 = .ok (.aload_n 0, 1) := by decide +kernel
theorem d_G_put_49 : decode b_G_put 49 = .ok (.getfield 15, 3) := by decide +kernel
theorem d_G_put_52 : decode b_G_put 52 = .ok (.iload_n 2, 1) := by decide +kernel
theorem d_G_put_53 : decode b_G_put 53 = .ok (.iload_n 3, 1) := by decide +kernel
theorem d_G_put_54 : decode b_G_put 54 = .ok (.iconst 2, 1) := by decide +kernel
theorem d_G_put_55 : decode b_G_put 55 = .ok (.if_icmp .ne 15, 3) := by decide +kernel
theorem d_G_put_58 : decode b_G_put 58 = .ok (.aload_n 0, 1) := by decide +kernel
theorem d_G_put_59 : decode b_G_put 59 = .ok (.getfield 15, 3) := by decide +kernel
theorem d_G_put_62 : decode b_G_put 62 = .ok (.iload_n 2, 1) := by decide +kernel
theorem d_G_put_63 : decode b_G_put 63 = .ok (.iaload, 1) := by decide +kernel
theorem d_G_put_64 : decode b_G_put 64 = .ok (.iload 4, 2) := by decide +kernel
theorem d_G_put_66 : decode b_G_put 66 = .ok (.ior, 1) := by decide +kernel
theorem d_G_put_67 : decode b_G_put 67 = .ok (.goto 14, 3) := by decide +kernel
theorem d_G_put_70 : decode b_G_put 70 = .ok (.aload_n 0, 1) := by decide +kernel
theorem d_G_put_71 : decode b_G_put 71 = .ok (.getfield 15, 3) := by decide +kernel
theorem d_G_put_74 : decode b_G_put 74 = .ok (.iload_n 2, 1) := by decide +kernel
theorem d_G_put_75 : decode b_G_put 75 = .ok (.iaload, 1) := by decide +kernel
theorem d_G_put_76 : decode b_G_put 76 = .ok (.iload 4, 2) := by decide +kernel
theorem d_G_put_78 : decode b_G_put 78 = .ok (.iconst (-1), 1) := by decide +kernel
theorem d_G_put_79 : decode b_G_put 79 = .ok (.ixor, 1) := by decide +kernel
theorem d_G_put_80 : decode b_G_put 80 = .ok (.iand, 1) := by decide +kernel
theorem d_G_put_81 : decode b_G_put 81 = .ok (.iastore, 1) := by decide +kernel
theorem d_G_put_82 : decode b_G_put 82 = .ok (.aload_n 0, 1) := by decide +kernel
theorem d_G_put_83 : decode b_G_put 83 = .ok (.getfield 18, 3) := by decide +kernel
theorem d_G_put_86 : decode b_G_put 86 = .ok (.iload_n 2, 1) := by decide +kernel
theorem d_G_put_87 : decode b_G_put 87 = .ok (.iload_n 3, 1) := by decide +kernel
theorem d_G_put_88 : decode b_G_put 88 = .ok (.iconst 3, 1) := by decide +kernel
theorem d_G_put_89 : decode b_G_put 89 = .ok (.if_icmp .ne 15, 3) := by decide +kernel
theorem d_G_put_92 : decode b_G_put 92 = .ok (.aload_n 0, 1) := by decide +kernel
theorem d_G_put_93 : decode b_G_put 93 = .ok (.getfield 18, 3) := by decide +kernel
theorem d_G_put_96 : decode b_G_put 96 = .ok (.iload_n 2, 1) := by decide +kernel
theorem d_G_put_97 : decode b_G_put 97 = .ok (.iaload, 1) := by decide +kernel
theorem d_G_put_98 : decode b_G_put 98 = .ok (.iload 4, 2) := by decide +kernel
theorem d_G_put_100 : decode b_G_put 100 = .ok (.ior, 1) := by decide +kernel
theorem d_G_put_101 : decode b_G_put 101 = .ok (.goto 14, 3) := by decide +kernel
theorem d_G_put_104 : decode b_G_put 104 = .ok (.aload_n 0, 1) := by decide +kernel
theorem d_G_put_105 : decode b_G_put 105 = .ok (.getfield 18, 3) := by decide +kernel
theorem d_G_put_108 : decode b_G_put 108 = .ok (.iload_n 2, 1) := by decide +kernel
theorem d_G_put_109 : decode b_G_put 109 = .ok (.iaload, 1) := by decide +kernel
theorem d_G_put_110 : decode b_G_put 110 = .ok (.iload 4, 2) := by decide +kernel
theorem d_G_put_112 : decode b_G_put 112 = .ok (.iconst (-1), 1) := by decide +kernel
theorem d_G_put_113 : decode b_G_put 113 = .ok (.ixor, 1) := by decide +kernel
theorem d_G_put_114 : decode b_G_put 114 = .ok (.iand, 1) := by decide +kernel
theorem d_G_put_115 : decode b_G_put 115 = .ok (.iastore, 1) := by decide +kernel
theorem d_G_put_116 : decode b_G_put 116 = .ok (.return_, 1) := by decide +kernel
abbrev b_G_takeFrom : ByteArray := prog_2_method_4_code
theorem d_G_takeFrom_0 : decode b_G_takeFrom 0 = .ok (.aload_n 1, 1) := by decide +kernel
theorem d_G_takeFrom_1 : decode b_G_takeFrom 1 = .ok (.getfield 9, 3) := by decide +kernel
theorem d_G_takeFrom_4 : decode b_G_takeFrom 4 = .ok (.iconst 0, 1) := by decide +kernel
theorem d_G_takeFrom_5 : decode b_G_takeFrom 5 = .ok (.aload_n 0, 1) := by decide +kernel
theorem d_G_takeFrom_6 : decode b_G_takeFrom 6 = .ok (.getfield 9, 3) := by decide +kernel
theorem d_G_takeFrom_9 : decode b_G_takeFrom 9 = .ok (.iconst 0, 1) := by decide +kernel
theorem d_G_takeFrom_10 : decode b_G_takeFrom 10 = .ok (.bipush 24, 2) := by decide +kernel
theorem d_G_takeFrom_12 : decode b_G_takeFrom 12 = .ok (.invokestatic 25, 3) := by decide +kernel
theorem d_G_takeFrom_15 : decode b_G_takeFrom 15 = .ok (.aload_n 1, 1) := by decide +kernel
theorem d_G_takeFrom_16 : decode b_G_takeFrom 16 = .ok (.getfield 15, 3) := by decide +kernel
theorem d_G_takeFrom_19 : decode b_G_takeFrom 19 = .ok (.iconst 0, 1) := by decide +kernel
theorem d_G_takeFrom_20 : decode b_G_takeFrom 20 = .ok (.aload_n 0, 1) := by decide +kernel
theorem d_G_takeFrom_21 : decode b_G_takeFrom 21 = .ok (.getfield 15, 3) := by decide +kernel
theorem d_G_takeFrom_24 : decode b_G_takeFrom 24 = .ok (.iconst 0, 1) := by decide +kernel
theorem d_G_takeFrom_25 : decode b_G_takeFrom 25 = .ok (.bipush 24, 2) := by decide +kernel
theorem d_G_takeFrom_27 : decode b_G_takeFrom 27 = .ok (.invokestatic 25, 3) := by decide +kernel
theorem d_G_takeFrom_30 : decode b_G_takeFrom 30 = .ok (.aload_n 1, 1) := by decide +kernel
theorem d_G_takeFrom_31 : decode b_G_takeFrom 31 = .ok (.getfield 18, 3) := by decide +kernel
theorem d_G_takeFrom_34 : decode b_G_takeFrom 34 = .ok (.iconst 0, 1) := by decide +kernel
theorem d_G_takeFrom_35 : decode b_G_takeFrom 35 = .ok (.aload_n 0, 1) := by decide +kernel
theorem d_G_takeFrom_36 : decode b_G_takeFrom 36 = .ok (.getfield 18, 3) := by decide +kernel
theorem d_G_takeFrom_39 : decode b_G_takeFrom 39 = .ok (.iconst 0, 1) := by decide +kernel
theorem d_G_takeFrom_40 : decode b_G_takeFrom 40 = .ok (.bipush 24, 2) := by decide +kernel
theorem d_G_takeFrom_42 : decode b_G_takeFrom 42 = .ok (.invokestatic 25, 3) := by decide +kernel
theorem d_G_takeFrom_45 : decode b_G_takeFrom 45 = .ok (.return_, 1) := by decide +kernel
abbrev b_G_isSameAs : ByteArray := prog_2_method_5_code
theorem d_G_isSameAs_0 : decode b_G_isSameAs 0 = .ok (.iconst 0, 1) := by decide +kernel
theorem d_G_isSameAs_1 : decode b_G_isSameAs 1 = .ok (.istore_n 2, 1) := by decide +kernel
theorem d_G_isSameAs_2 : decode b_G_isSameAs 2 = .ok (.iload_n 2, 1) := by decide +kernel
theorem d_G_isSameAs_3 : decode b_G_isSameAs 3 = .ok (.bipush 24, 2) := by decide +kernel
theorem d_G_isSameAs_5 : decode b_G_isSameAs 5 = .ok (.if_icmp .ge 56, 3) := by decide +kernel
theorem d_G_isSameAs_8 : decode b_G_isSameAs 8 = .ok (.aload_n 0, 1) := by decide +kernel
theorem d_G_isSameAs_9 : decode b_G_isSameAs 9 = .ok (.getfield 9, 3) := by decide +kernel
theorem d_G_isSameAs_12 : decode b_G_isSameAs 12 = .ok (.iload_n 2, 1) := by decide +kernel
theorem d_G_isSameAs_13 : decode b_G_isSameAs 13 = .ok (.iaload, 1) := by decide +kernel
theorem d_G_isSameAs_14 : decode b_G_isSameAs 14 = .ok (.aload_n 1, 1) := by decide +kernel
theorem d_G_isSameAs_15 : decode b_G_isSameAs 15 = .ok (.getfield 9, 3) := by decide +kernel
theorem d_G_isSameAs_18 : decode b_G_isSameAs 18 = .ok (.iload_n 2, 1) := by decide +kernel
theorem d_G_isSameAs_19 : decode b_G_isSameAs 19 = .ok (.iaload, 1) := by decide +kernel
theorem d_G_isSameAs_20 : decode b_G_isSameAs 20 = .ok (.if_icmp .ne 33, 3) := by decide +kernel
theorem d_G_isSameAs_23 : decode b_G_isSameAs 23 = .ok (.aload_n 0, 1) := by decide +kernel
theorem d_G_isSameAs_24 : decode b_G_isSameAs 24 = .ok (.getfield 15, 3) := by decide +kernel
theorem d_G_isSameAs_27 : decode b_G_isSameAs 27 = .ok (.iload_n 2, 1) := by decide +kernel
theorem d_G_isSameAs_28 : decode b_G_isSameAs 28 = .ok (.iaload, 1) := by decide +kernel
theorem d_G_isSameAs_29 : decode b_G_isSameAs 29 = .ok (.aload_n 1, 1) := by decide +kernel
theorem d_G_isSameAs_30 : decode b_G_isSameAs 30 = .ok (.getfield 15, 3) := by decide +kernel
theorem d_G_isSameAs_33 : decode b_G_isSameAs 33 = .ok (.iload_n 2, 1) := by decide +kernel
theorem d_G_isSameAs_34 : decode b_G_isSameAs 34 = .ok (.iaload, 1) := by decide +kernel
theorem d_G_isSameAs_35 : decode b_G_isSameAs 35 = .ok (.if_icmp .ne 18, 3) := by decide +kernel
theorem d_G_isSameAs_38 : decode b_G_isSameAs 38 = .ok (.aload_n 0, 1) := by decide +kernel
theorem d_G_isSameAs_39 : decode b_G_isSameAs 39 = .ok (.getfield 18, 3) := by decide +kernel
theorem d_G_isSameAs_42 : decode b_G_isSameAs 42 = .ok (.iload_n 2, 1) := by decide +kernel
theorem d_G_isSameAs_43 : decode b_G_isSameAs 43 = .ok (.iaload, 1) := by decide +kernel
theorem d_G_isSameAs_44 : decode b_G_isSameAs 44 = .ok (.aload_n 1, 1) := by decide +kernel
theorem d_G_isSameAs_45 : decode b_G_isSameAs 45 = .ok (.getfield 18, 3) := by decide +kernel
theorem d_G_isSameAs_48 : decode b_G_isSameAs 48 = .ok (.iload_n 2, 1) := by decide +kernel
theorem d_G_isSameAs_49 : decode b_G_isSameAs 49 = .ok (.iaload, 1) := by decide +kernel
theorem d_G_isSameAs_50 : decode b_G_isSameAs 50 = .ok (.if_icmp .eq 5, 3) := by decide +kernel
theorem d_G_isSameAs_53 : decode b_G_isSameAs 53 = .ok (.iconst 0, 1) := by decide +kernel
theorem d_G_isSameAs_54 : decode b_G_isSameAs 54 = .ok (.ireturn, 1) := by decide +kernel
theorem d_G_isSameAs_55 : decode b_G_isSameAs 55 = .ok (.iinc 2 1, 3) := by decide +kernel
theorem d_G_isSameAs_58 : decode b_G_isSameAs 58 = .ok (.goto (-56), 3) := by decide +kernel
theorem d_G_isSameAs_61 : decode b_G_isSameAs 61 = .ok (.iconst 1, 1) := by decide +kernel
theorem d_G_isSameAs_62 : decode b_G_isSameAs 62 = .ok (.ireturn, 1) := by decide +kernel
abbrev b_G_count : ByteArray := prog_2_method_6_code
theorem d_G_count_0 : decode b_G_count 0 = .ok (.iconst 0, 1) := by decide +kernel
theorem d_G_count_1 : decode b_G_count 1 = .ok (.istore_n 2, 1) := by decide +kernel
theorem d_G_count_2 : decode b_G_count 2 = .ok (.iconst 0, 1) := by decide +kernel
theorem d_G_count_3 : decode b_G_count 3 = .ok (.istore_n 3, 1) := by decide +kernel
theorem d_G_count_4 : decode b_G_count 4 = .ok (.iload_n 3, 1) := by decide +kernel
theorem d_G_count_5 : decode b_G_count 5 = .ok (.bipush 24, 2) := by decide +kernel
theorem d_G_count_7 : decode b_G_count 7 = .ok (.if_icmp .ge 53, 3) := by decide +kernel
theorem d_G_count_10 : decode b_G_count 10 = .ok (.iload_n 1, 1) := by decide +kernel
theorem d_G_count_11 : decode b_G_count 11 = .ok (.iconst 1, 1) := by decide +kernel
theorem d_G_count_12 : decode b_G_count 12 = .ok (.if_icmp .ne 12, 3) := by decide +kernel
theorem d_G_count_15 : decode b_G_count 15 = .ok (.aload_n 0, 1) := by decide +kernel
theorem d_G_count_16 : decode b_G_count 16 = .ok (.getfield 9, 3) := by decide +kernel
theorem d_G_count_19 : decode b_G_count 19 = .ok (.iload_n 3, 1) := by decide +kernel
theorem d_G_count_20 : decode b_G_count 20 = .ok (.iaload, 1) := by decide +kernel
theorem d_G_count_21 : decode b_G_count 21 = .ok (.goto 23, 3) := by decide +kernel
theorem d_G_count_24 : decode b_G_count 24 = .ok (.iload_n 1, 1) := by decide +kernel
theorem d_G_count_25 : decode b_G_count 25 = .ok (.iconst 2, 1) := by decide +kernel
theorem d_G_count_26 : decode b_G_count 26 = .ok (.if_icmp .ne 12, 3) := by decide +kernel
theorem d_G_count_29 : decode b_G_count 29 = .ok (.aload_n 0, 1) := by decide +kernel
theorem d_G_count_30 : decode b_G_count 30 = .ok (.getfield 15, 3) := by decide +kernel
theorem d_G_count_33 : decode b_G_count 33 = .ok (.iload_n 3, 1) := by decide +kernel
theorem d_G_count_34 : decode b_G_count 34 = .ok (.iaload, 1) := by decide +kernel
theorem d_G_count_35 : decode b_G_count 35 = .ok (.goto 9, 3) := by decide +kernel
theorem d_G_count_38 : decode b_G_count 38 = .ok (.aload_n 0, 1) := by decide +kernel
theorem d_G_count_39 : decode b_G_count 39 = .ok (.getfield 18, 3) := by decide +kernel
theorem d_G_count_42 : decode b_G_count 42 = .ok (.iload_n 3, 1) := by decide +kernel
theorem d_G_count_43 : decode b_G_count 43 = .ok (.iaload, 1) := by decide +kernel
theorem d_G_count_44 : decode b_G_count 44 = .ok (.istore 4, 2) := by decide +kernel
theorem d_G_count_46 : decode b_G_count 46 = .ok (.iload_n 2, 1) := by decide +kernel
theorem d_G_count_47 : decode b_G_count 47 = .ok (.iload 4, 2) := by decide +kernel
theorem d_G_count_49 : decode b_G_count 49 = .ok (.invokestatic 31, 3) := by decide +kernel
theorem d_G_count_52 : decode b_G_count 52 = .ok (.iadd, 1) := by decide +kernel
theorem d_G_count_53 : decode b_G_count 53 = .ok (.istore_n 2, 1) := by decide +kernel
theorem d_G_count_54 : decode b_G_count 54 = .ok (.iinc 3 1, 3) := by decide +kernel
theorem d_G_count_57 : decode b_G_count 57 = .ok (.goto (-53), 3) := by decide +kernel
theorem d_G_count_60 : decode b_G_count 60 = .ok (.iload_n 2, 1) := by decide +kernel
theorem d_G_count_61 : decode b_G_count 61 = .ok (.ireturn, 1) := by decide +kernel
abbrev b_G_becomeGenerationAfter : ByteArray := prog_2_method_7_code
theorem d_G_becomeGenerationAfter_0 : decode b_G_becomeGenerationAfter 0 = .ok (.iconst 0, 1) := by decide +kernel
theorem d_G_becomeGenerationAfter_1 : decode b_G_becomeGenerationAfter 1 = .ok (.istore_n 2, 1) := by decide +kernel
theorem d_G_becomeGenerationAfter_2 : decode b_G_becomeGenerationAfter 2 = .ok (.iload_n 2, 1) := by decide +kernel
theorem d_G_becomeGenerationAfter_3 : decode b_G_becomeGenerationAfter 3 = .ok (.bipush 24, 2) := by decide +kernel
theorem d_G_becomeGenerationAfter_5 : decode b_G_becomeGenerationAfter 5 = .ok (.if_icmp .ge 64, 3) := by decide +kernel
theorem d_G_becomeGenerationAfter_8 : decode b_G_becomeGenerationAfter 8 = .ok (.aload_n 1, 1) := by decide +kernel
theorem d_G_becomeGenerationAfter_9 : decode b_G_becomeGenerationAfter 9 = .ok (.getfield 18, 3) := by decide +kernel
theorem d_G_becomeGenerationAfter_12 : decode b_G_becomeGenerationAfter 12 = .ok (.iload_n 2, 1) := by decide +kernel
theorem d_G_becomeGenerationAfter_13 : decode b_G_becomeGenerationAfter 13 = .ok (.iaload, 1) := by decide +kernel
theorem d_G_becomeGenerationAfter_14 : decode b_G_becomeGenerationAfter 14 = .ok (.aload_n 1, 1) := by decide +kernel
theorem d_G_becomeGenerationAfter_15 : decode b_G_becomeGenerationAfter 15 = .ok (.iload_n 2, 1) := by decide +kernel
theorem d_G_becomeGenerationAfter_16 : decode b_G_becomeGenerationAfter 16 = .ok (.invokevirtual 37, 3) := by decide +kernel
theorem d_G_becomeGenerationAfter_19 : decode b_G_becomeGenerationAfter 19 = .ok (.iand, 1) := by decide +kernel
theorem d_G_becomeGenerationAfter_20 : decode b_G_becomeGenerationAfter 20 = .ok (.istore_n 3, 1) := by decide +kernel
theorem d_G_becomeGenerationAfter_21 : decode b_G_becomeGenerationAfter 21 = .ok (.aload_n 0, 1) := by decide +kernel
theorem d_G_becomeGenerationAfter_22 : decode b_G_becomeGenerationAfter 22 = .ok (.getfield 9, 3) := by decide +kernel
theorem d_G_becomeGenerationAfter_25 : decode b_G_becomeGenerationAfter 25 = .ok (.iload_n 2, 1) := by decide +kernel
theorem d_G_becomeGenerationAfter_26 : decode b_G_becomeGenerationAfter 26 = .ok (.iload_n 3, 1) := by decide +kernel
theorem d_G_becomeGenerationAfter_27 : decode b_G_becomeGenerationAfter 27 = .ok (.iastore, 1) := by decide +kernel
theorem d_G_becomeGenerationAfter_28 : decode b_G_becomeGenerationAfter 28 = .ok (.aload_n 0, 1) := by decide +kernel
theorem d_G_becomeGenerationAfter_29 : decode b_G_becomeGenerationAfter 29 = .ok (.getfield 15, 3) := by decide +kernel
theorem d_G_becomeGenerationAfter_32 : decode b_G_becomeGenerationAfter 32 = .ok (.iload_n 2, 1) := by decide +kernel
theorem d_G_becomeGenerationAfter_33 : decode b_G_becomeGenerationAfter 33 = .ok (.aload_n 1, 1) := by decide +kernel
theorem d_G_becomeGenerationAfter_34 : decode b_G_becomeGenerationAfter 34 = .ok (.getfield 9, 3) := by decide +kernel
theorem d_G_becomeGenerationAfter_37 : decode b_G_becomeGenerationAfter 37 = .ok (.iload_n 2, 1) := by decide +kernel
theorem d_G_becomeGenerationAfter_38 : decode b_G_becomeGenerationAfter 38 = .ok (.iaload, 1) := by decide +kernel
theorem d_G_becomeGenerationAfter_39 : decode b_G_becomeGenerationAfter 39 = .ok (.iastore, 1) := by decide +kernel
theorem d_G_becomeGenerationAfter_40 : decode b_G_becomeGenerationAfter 40 = .ok (.aload_n 0, 1) := by decide +kernel
theorem d_G_becomeGenerationAfter_41 : decode b_G_becomeGenerationAfter 41 = .ok (.getfield 18, 3) := by decide +kernel
theorem d_G_becomeGenerationAfter_44 : decode b_G_becomeGenerationAfter 44 = .ok (.iload_n 2, 1) := by decide +kernel
theorem d_G_becomeGenerationAfter_45 : decode b_G_becomeGenerationAfter 45 = .ok (.aload_n 1, 1) := by decide +kernel
theorem d_G_becomeGenerationAfter_46 : decode b_G_becomeGenerationAfter 46 = .ok (.getfield 18, 3) := by decide +kernel
theorem d_G_becomeGenerationAfter_49 : decode b_G_becomeGenerationAfter 49 = .ok (.iload_n 2, 1) := by decide +kernel
theorem d_G_becomeGenerationAfter_50 : decode b_G_becomeGenerationAfter 50 = .ok (.iaload, 1) := by decide +kernel
theorem d_G_becomeGenerationAfter_51 : decode b_G_becomeGenerationAfter 51 = .ok (.iload_n 3, 1) := by decide +kernel
theorem d_G_becomeGenerationAfter_52 : decode b_G_becomeGenerationAfter 52 = .ok (.iconst (-1), 1) := by decide +kernel
theorem d_G_becomeGenerationAfter_53 : decode b_G_becomeGenerationAfter 53 = .ok (.ixor, 1) := by decide +kernel
theorem d_G_becomeGenerationAfter_54 : decode b_G_becomeGenerationAfter 54 = .ok (.iand, 1) := by decide +kernel
theorem d_G_becomeGenerationAfter_55 : decode b_G_becomeGenerationAfter 55 = .ok (.aload_n 1, 1) := by decide +kernel
theorem d_G_becomeGenerationAfter_56 : decode b_G_becomeGenerationAfter 56 = .ok (.getfield 15, 3) := by decide +kernel
theorem d_G_becomeGenerationAfter_59 : decode b_G_becomeGenerationAfter 59 = .ok (.iload_n 2, 1) := by decide +kernel
theorem d_G_becomeGenerationAfter_60 : decode b_G_becomeGenerationAfter 60 = .ok (.iaload, 1) := by decide +kernel
theorem d_G_becomeGenerationAfter_61 : decode b_G_becomeGenerationAfter 61 = .ok (.ior, 1) := by decide +kernel
theorem d_G_becomeGenerationAfter_62 : decode b_G_becomeGenerationAfter 62 = .ok (.iastore, 1) := by decide +kernel
theorem d_G_becomeGenerationAfter_63 : decode b_G_becomeGenerationAfter 63 = .ok (.iinc 2 1, 3) := by decide +kernel
theorem d_G_becomeGenerationAfter_66 : decode b_G_becomeGenerationAfter 66 = .ok (.goto (-64), 3) := by decide +kernel
theorem d_G_becomeGenerationAfter_69 : decode b_G_becomeGenerationAfter 69 = .ok (.return_, 1) := by decide +kernel
abbrev b_G_besideOneOrTwoHeads : ByteArray := prog_2_method_8_code
theorem d_G_besideOneOrTwoHeads_0 : decode b_G_besideOneOrTwoHeads 0 = .ok (.iconst 0, 1) := by decide +kernel
theorem d_G_besideOneOrTwoHeads_1 : decode b_G_besideOneOrTwoHeads 1 = .ok (.istore_n 2, 1) := by decide +kernel
theorem d_G_besideOneOrTwoHeads_2 : decode b_G_besideOneOrTwoHeads 2 = .ok (.iconst 0, 1) := by decide +kernel
theorem d_G_besideOneOrTwoHeads_3 : decode b_G_besideOneOrTwoHeads 3 = .ok (.istore_n 3, 1) := by decide +kernel
theorem d_G_besideOneOrTwoHeads_4 : decode b_G_besideOneOrTwoHeads 4 = .ok (.iconst 0, 1) := by decide +kernel
theorem d_G_besideOneOrTwoHeads_5 : decode b_G_besideOneOrTwoHeads 5 = .ok (.istore 4, 2) := by decide +kernel
theorem d_G_besideOneOrTwoHeads_7 : decode b_G_besideOneOrTwoHeads 7 = .ok (.iload_n 1, 1) := by decide +kernel
theorem d_G_besideOneOrTwoHeads_8 : decode b_G_besideOneOrTwoHeads 8 = .ok (.iconst 1, 1) := by decide +kernel
theorem d_G_besideOneOrTwoHeads_9 : decode b_G_besideOneOrTwoHeads 9 = .ok (.isub, 1) := by decide +kernel
theorem d_G_besideOneOrTwoHeads_10 : decode b_G_besideOneOrTwoHeads 10 = .ok (.iconst 0, 1) := by decide +kernel
theorem d_G_besideOneOrTwoHeads_11 : decode b_G_besideOneOrTwoHeads 11 = .ok (.invokestatic 40, 3) := by decide +kernel
theorem d_G_besideOneOrTwoHeads_14 : decode b_G_besideOneOrTwoHeads 14 = .ok (.istore 5, 2) := by decide +kernel
theorem d_G_besideOneOrTwoHeads_16 : decode b_G_besideOneOrTwoHeads 16 = .ok (.iload 5, 2) := by decide +kernel
theorem d_G_besideOneOrTwoHeads_18 : decode b_G_besideOneOrTwoHeads 18 = .ok (.iload_n 1, 1) := by decide +kernel
theorem d_G_besideOneOrTwoHeads_19 : decode b_G_besideOneOrTwoHeads 19 = .ok (.iconst 1, 1) := by decide +kernel
theorem d_G_besideOneOrTwoHeads_20 : decode b_G_besideOneOrTwoHeads 20 = .ok (.iadd, 1) := by decide +kernel
theorem d_G_besideOneOrTwoHeads_21 : decode b_G_besideOneOrTwoHeads 21 = .ok (.if_icmp .gt 96, 3) := by decide +kernel
theorem d_G_besideOneOrTwoHeads_24 : decode b_G_besideOneOrTwoHeads 24 = .ok (.iload 5, 2) := by decide +kernel
theorem d_G_besideOneOrTwoHeads_26 : decode b_G_besideOneOrTwoHeads 26 = .ok (.bipush 24, 2) := by decide +kernel
theorem d_G_besideOneOrTwoHeads_28 : decode b_G_besideOneOrTwoHeads 28 = .ok (.if_icmp .ge 89, 3) := by decide +kernel
theorem d_G_besideOneOrTwoHeads_31 : decode b_G_besideOneOrTwoHeads 31 = .ok (.iconst 0, 1) := by decide +kernel
theorem d_G_besideOneOrTwoHeads_32 : decode b_G_besideOneOrTwoHeads 32 = .ok (.istore 6, 2) := by decide +kernel
theorem d_G_besideOneOrTwoHeads_34 : decode b_G_besideOneOrTwoHeads 34 = .ok (.iload 6, 2) := by decide +kernel
theorem d_G_besideOneOrTwoHeads_36 : decode b_G_besideOneOrTwoHeads 36 = .ok (.iconst 3, 1) := by decide +kernel
theorem d_G_besideOneOrTwoHeads_37 : decode b_G_besideOneOrTwoHeads 37 = .ok (.if_icmp .ge 74, 3) := by decide +kernel
theorem d_G_besideOneOrTwoHeads_40 : decode b_G_besideOneOrTwoHeads 40 = .ok (.iload 6, 2) := by decide +kernel
theorem d_G_besideOneOrTwoHeads_42 : decode b_G_besideOneOrTwoHeads 42 = .ok (.ifCond .ne 15, 3) := by decide +kernel
theorem d_G_besideOneOrTwoHeads_45 : decode b_G_besideOneOrTwoHeads 45 = .ok (.aload_n 0, 1) := by decide +kernel
theorem d_G_besideOneOrTwoHeads_46 : decode b_G_besideOneOrTwoHeads 46 = .ok (.getfield 9, 3) := by decide +kernel
theorem d_G_besideOneOrTwoHeads_49 : decode b_G_besideOneOrTwoHeads 49 = .ok (.iload 5, 2) := by decide +kernel
theorem d_G_besideOneOrTwoHeads_51 : decode b_G_besideOneOrTwoHeads 51 = .ok (.iaload, 1) := by decide +kernel
theorem d_G_besideOneOrTwoHeads_52 : decode b_G_besideOneOrTwoHeads 52 = .ok (.iconst 1, 1) := by decide +kernel
theorem d_G_besideOneOrTwoHeads_53 : decode b_G_besideOneOrTwoHeads 53 = .ok (.ishl, 1) := by decide +kernel
theorem d_G_besideOneOrTwoHeads_54 : decode b_G_besideOneOrTwoHeads 54 = .ok (.goto 28, 3) := by decide +kernel
theorem d_G_besideOneOrTwoHeads_57 : decode b_G_besideOneOrTwoHeads 57 = .ok (.iload 6, 2) := by decide +kernel
theorem d_G_besideOneOrTwoHeads_59 : decode b_G_besideOneOrTwoHeads 59 = .ok (.iconst 1, 1) := by decide +kernel
theorem d_G_besideOneOrTwoHeads_60 : decode b_G_besideOneOrTwoHeads 60 = .ok (.if_icmp .ne 13, 3) := by decide +kernel
theorem d_G_besideOneOrTwoHeads_63 : decode b_G_besideOneOrTwoHeads 63 = .ok (.aload_n 0, 1) := by decide +kernel
theorem d_G_besideOneOrTwoHeads_64 : decode b_G_besideOneOrTwoHeads 64 = .ok (.getfield 9, 3) := by decide +kernel
theorem d_G_besideOneOrTwoHeads_67 : decode b_G_besideOneOrTwoHeads 67 = .ok (.iload 5, 2) := by decide +kernel
theorem d_G_besideOneOrTwoHeads_69 : decode b_G_besideOneOrTwoHeads 69 = .ok (.iaload, 1) := by decide +kernel
theorem d_G_besideOneOrTwoHeads_70 : decode b_G_besideOneOrTwoHeads 70 = .ok (.goto 12, 3) := by decide +kernel
theorem d_G_besideOneOrTwoHeads_73 : decode b_G_besideOneOrTwoHeads 73 = .ok (.aload_n 0, 1) := by decide +kernel
theorem d_G_besideOneOrTwoHeads_74 : decode b_G_besideOneOrTwoHeads 74 = .ok (.getfield 9, 3) := by decide +kernel
theorem d_G_besideOneOrTwoHeads_77 : decode b_G_besideOneOrTwoHeads 77 = .ok (.iload 5, 2) := by decide +kernel
theorem d_G_besideOneOrTwoHeads_79 : decode b_G_besideOneOrTwoHeads 79 = .ok (.iaload, 1) := by decide +kernel
theorem d_G_besideOneOrTwoHeads_80 : decode b_G_besideOneOrTwoHeads 80 = .ok (.iconst 1, 1) := by decide +kernel
theorem d_G_besideOneOrTwoHeads_81 : decode b_G_besideOneOrTwoHeads 81 = .ok (.iushr, 1) := by decide +kernel
theorem d_G_besideOneOrTwoHeads_82 : decode b_G_besideOneOrTwoHeads 82 = .ok (.istore 7, 2) := by decide +kernel
theorem d_G_besideOneOrTwoHeads_84 : decode b_G_besideOneOrTwoHeads 84 = .ok (.iload 4, 2) := by decide +kernel
theorem d_G_besideOneOrTwoHeads_86 : decode b_G_besideOneOrTwoHeads 86 = .ok (.iload_n 3, 1) := by decide +kernel
theorem d_G_besideOneOrTwoHeads_87 : decode b_G_besideOneOrTwoHeads 87 = .ok (.iload 7, 2) := by decide +kernel
theorem d_G_besideOneOrTwoHeads_89 : decode b_G_besideOneOrTwoHeads 89 = .ok (.iand, 1) := by decide +kernel
theorem d_G_besideOneOrTwoHeads_90 : decode b_G_besideOneOrTwoHeads 90 = .ok (.ior, 1) := by decide +kernel
theorem d_G_besideOneOrTwoHeads_91 : decode b_G_besideOneOrTwoHeads 91 = .ok (.istore 4, 2) := by decide +kernel
theorem d_G_besideOneOrTwoHeads_93 : decode b_G_besideOneOrTwoHeads 93 = .ok (.iload_n 3, 1) := by decide +kernel
theorem d_G_besideOneOrTwoHeads_94 : decode b_G_besideOneOrTwoHeads 94 = .ok (.iload_n 2, 1) := by decide +kernel
theorem d_G_besideOneOrTwoHeads_95 : decode b_G_besideOneOrTwoHeads 95 = .ok (.iload 7, 2) := by decide +kernel
theorem d_G_besideOneOrTwoHeads_97 : decode b_G_besideOneOrTwoHeads 97 = .ok (.iand, 1) := by decide +kernel
theorem d_G_besideOneOrTwoHeads_98 : decode b_G_besideOneOrTwoHeads 98 = .ok (.ior, 1) := by decide +kernel
theorem d_G_besideOneOrTwoHeads_99 : decode b_G_besideOneOrTwoHeads 99 = .ok (.istore_n 3, 1) := by decide +kernel
theorem d_G_besideOneOrTwoHeads_100 : decode b_G_besideOneOrTwoHeads 100 = .ok (.iload_n 2, 1) := by decide +kernel
theorem d_G_besideOneOrTwoHeads_101 : decode b_G_besideOneOrTwoHeads 101 = .ok (.iload 7, 2) := by decide +kernel
theorem d_G_besideOneOrTwoHeads_103 : decode b_G_besideOneOrTwoHeads 103 = .ok (.ior, 1) := by decide +kernel
theorem d_G_besideOneOrTwoHeads_104 : decode b_G_besideOneOrTwoHeads 104 = .ok (.istore_n 2, 1) := by decide +kernel
theorem d_G_besideOneOrTwoHeads_105 : decode b_G_besideOneOrTwoHeads 105 = .ok (.iinc 6 1, 3) := by decide +kernel
theorem d_G_besideOneOrTwoHeads_108 : decode b_G_besideOneOrTwoHeads 108 = .ok (.goto (-74), 3) := by decide +kernel
theorem d_G_besideOneOrTwoHeads_111 : decode b_G_besideOneOrTwoHeads 111 = .ok (.iinc 5 1, 3) := by decide +kernel
theorem d_G_besideOneOrTwoHeads_114 : decode b_G_besideOneOrTwoHeads 114 = .ok (.goto (-98), 3) := by decide +kernel
theorem d_G_besideOneOrTwoHeads_117 : decode b_G_besideOneOrTwoHeads 117 = .ok (.iload_n 2, 1) := by decide +kernel
theorem d_G_besideOneOrTwoHeads_118 : decode b_G_besideOneOrTwoHeads 118 = .ok (.iload 4, 2) := by decide +kernel
theorem d_G_besideOneOrTwoHeads_120 : decode b_G_besideOneOrTwoHeads 120 = .ok (.iconst (-1), 1) := by decide +kernel
theorem d_G_besideOneOrTwoHeads_121 : decode b_G_besideOneOrTwoHeads 121 = .ok (.ixor, 1) := by decide +kernel
theorem d_G_besideOneOrTwoHeads_122 : decode b_G_besideOneOrTwoHeads 122 = .ok (.iand, 1) := by decide +kernel
theorem d_G_besideOneOrTwoHeads_123 : decode b_G_besideOneOrTwoHeads 123 = .ok (.ireturn, 1) := by decide +kernel
abbrev b_Mo_init : ByteArray := prog_3_method_1_code
theorem d_Mo_init_0 : decode b_Mo_init 0 = .ok (.aload_n 0, 1) := by decide +kernel
theorem d_Mo_init_1 : decode b_Mo_init 1 = .ok (.invokespecial 3, 3) := by decide +kernel
theorem d_Mo_init_4 : decode b_Mo_init 4 = .ok (.aload_n 0, 1) := by decide +kernel
theorem d_Mo_init_5 : decode b_Mo_init 5 = .ok (.new 9, 3) := by decide +kernel
theorem d_Mo_init_8 : decode b_Mo_init 8 = .ok (.dup, 1) := by decide +kernel
theorem d_Mo_init_9 : decode b_Mo_init 9 = .ok (.invokespecial 11, 3) := by decide +kernel
theorem d_Mo_init_12 : decode b_Mo_init 12 = .ok (.putfield 12, 3) := by decide +kernel
theorem d_Mo_init_15 : decode b_Mo_init 15 = .ok (.aload_n 0, 1) := by decide +kernel
theorem d_Mo_init_16 : decode b_Mo_init 16 = .ok (.iconst 4, 1) := by decide +kernel
theorem d_Mo_init_17 : decode b_Mo_init 17 = .ok (.newarray .int, 2) := by decide +kernel
theorem d_Mo_init_19 : decode b_Mo_init 19 = .ok (.putfield 18, 3) := by decide +kernel
theorem d_Mo_init_22 : decode b_Mo_init 22 = .ok (.return_, 1) := by decide +kernel
abbrev b_Pe_init : ByteArray := prog_4_method_1_code
theorem d_Pe_init_0 : decode b_Pe_init 0 = .ok (.aload_n 0, 1) := by decide +kernel
theorem d_Pe_init_1 : decode b_Pe_init 1 = .ok (.invokespecial 3, 3) := by decide +kernel
theorem d_Pe_init_4 : decode b_Pe_init 4 = .ok (.aload_n 0, 1) := by decide +kernel
theorem d_Pe_init_5 : decode b_Pe_init 5 = .ok (.new 9, 3) := by decide +kernel
theorem d_Pe_init_8 : decode b_Pe_init 8 = .ok (.dup, 1) := by decide +kernel
theorem d_Pe_init_9 : decode b_Pe_init 9 = .ok (.invokespecial 11, 3) := by decide +kernel
theorem d_Pe_init_12 : decode b_Pe_init 12 = .ok (.putfield 12, 3) := by decide +kernel
theorem d_Pe_init_15 : decode b_Pe_init 15 = .ok (.aload_n 0, 1) := by decide +kernel
theorem d_Pe_init_16 : decode b_Pe_init 16 = .ok (.iconst 0, 1) := by decide +kernel
theorem d_Pe_init_17 : decode b_Pe_init 17 = .ok (.putfield 18, 3) := by decide +kernel
theorem d_Pe_init_20 : decode b_Pe_init 20 = .ok (.aload_n 0, 1) := by decide +kernel
theorem d_Pe_init_21 : decode b_Pe_init 21 = .ok (.iconst 0, 1) := by decide +kernel
theorem d_Pe_init_22 : decode b_Pe_init 22 = .ok (.putfield 22, 3) := by decide +kernel
theorem d_Pe_init_25 : decode b_Pe_init 25 = .ok (.aload_n 0, 1) := by decide +kernel
theorem d_Pe_init_26 : decode b_Pe_init 26 = .ok (.iconst 0, 1) := by decide +kernel
theorem d_Pe_init_27 : decode b_Pe_init 27 = .ok (.putfield 25, 3) := by decide +kernel
theorem d_Pe_init_30 : decode b_Pe_init 30 = .ok (.aload_n 0, 1) := by decide +kernel
theorem d_Pe_init_31 : decode b_Pe_init 31 = .ok (.iconst 1, 1) := by decide +kernel
theorem d_Pe_init_32 : decode b_Pe_init 32 = .ok (.putfield 28, 3) := by decide +kernel
theorem d_Pe_init_35 : decode b_Pe_init 35 = .ok (.aload_n 0, 1) := by decide +kernel
theorem d_Pe_init_36 : decode b_Pe_init 36 = .ok (.iconst 0, 1) := by decide +kernel
theorem d_Pe_init_37 : decode b_Pe_init 37 = .ok (.putfield 32, 3) := by decide +kernel
theorem d_Pe_init_40 : decode b_Pe_init 40 = .ok (.return_, 1) := by decide +kernel
abbrev b_Pe_begin : ByteArray := prog_4_method_2_code
theorem d_Pe_begin_0 : decode b_Pe_begin 0 = .ok (.aload_n 0, 1) := by decide +kernel
theorem d_Pe_begin_1 : decode b_Pe_begin 1 = .ok (.getfield 12, 3) := by decide +kernel
theorem d_Pe_begin_4 : decode b_Pe_begin 4 = .ok (.aload_n 1, 1) := by decide +kernel
theorem d_Pe_begin_5 : decode b_Pe_begin 5 = .ok (.invokevirtual 35, 3) := by decide +kernel
theorem d_Pe_begin_8 : decode b_Pe_begin 8 = .ok (.aload_n 0, 1) := by decide +kernel
theorem d_Pe_begin_9 : decode b_Pe_begin 9 = .ok (.iload_n 2, 1) := by decide +kernel
theorem d_Pe_begin_10 : decode b_Pe_begin 10 = .ok (.putfield 18, 3) := by decide +kernel
theorem d_Pe_begin_13 : decode b_Pe_begin 13 = .ok (.aload_n 0, 1) := by decide +kernel
theorem d_Pe_begin_14 : decode b_Pe_begin 14 = .ok (.iload_n 3, 1) := by decide +kernel
theorem d_Pe_begin_15 : decode b_Pe_begin 15 = .ok (.putfield 22, 3) := by decide +kernel
theorem d_Pe_begin_18 : decode b_Pe_begin 18 = .ok (.aload_n 0, 1) := by decide +kernel
theorem d_Pe_begin_19 : decode b_Pe_begin 19 = .ok (.iload 4, 2) := by decide +kernel
theorem d_Pe_begin_21 : decode b_Pe_begin 21 = .ok (.putfield 25, 3) := by decide +kernel
theorem d_Pe_begin_24 : decode b_Pe_begin 24 = .ok (.aload_n 0, 1) := by decide +kernel
theorem d_Pe_begin_25 : decode b_Pe_begin 25 = .ok (.iconst 1, 1) := by decide +kernel
theorem d_Pe_begin_26 : decode b_Pe_begin 26 = .ok (.putfield 28, 3) := by decide +kernel
theorem d_Pe_begin_29 : decode b_Pe_begin 29 = .ok (.aload_n 0, 1) := by decide +kernel
theorem d_Pe_begin_30 : decode b_Pe_begin 30 = .ok (.iconst 0, 1) := by decide +kernel
theorem d_Pe_begin_31 : decode b_Pe_begin 31 = .ok (.putfield 32, 3) := by decide +kernel
theorem d_Pe_begin_34 : decode b_Pe_begin 34 = .ok (.return_, 1) := by decide +kernel
abbrev b_Pe_countOrder : ByteArray := prog_4_method_3_code
theorem d_Pe_countOrder_0 : decode b_Pe_countOrder 0 = .ok (.aload_n 0, 1) := by decide +kernel
theorem d_Pe_countOrder_1 : decode b_Pe_countOrder 1 = .ok (.getfield 32, 3) := by decide +kernel
theorem d_Pe_countOrder_4 : decode b_Pe_countOrder 4 = .ok (.sipush 400, 3) := by decide +kernel
theorem d_Pe_countOrder_7 : decode b_Pe_countOrder 7 = .ok (.if_icmp .lt 5, 3) := by decide +kernel
theorem d_Pe_countOrder_10 : decode b_Pe_countOrder 10 = .ok (.iconst 0, 1) := by decide +kernel
theorem d_Pe_countOrder_11 : decode b_Pe_countOrder 11 = .ok (.ireturn, 1) := by decide +kernel
theorem d_Pe_countOrder_12 : decode b_Pe_countOrder 12 = .ok (.aload_n 0, 1) := by decide +kernel
theorem d_Pe_countOrder_13 : decode b_Pe_countOrder 13 = .ok (.dup, 1) := by decide +kernel
theorem d_Pe_countOrder_14 : decode b_Pe_countOrder 14 = .ok (.getfield 32, 3) := by decide +kernel
theorem d_Pe_countOrder_17 : decode b_Pe_countOrder 17 = .ok (.iconst 1, 1) := by decide +kernel
theorem d_Pe_countOrder_18 : decode b_Pe_countOrder 18 = .ok (.iadd, 1) := by decide +kernel
theorem d_Pe_countOrder_19 : decode b_Pe_countOrder 19 = .ok (.putfield 32, 3) := by decide +kernel
theorem d_Pe_countOrder_22 : decode b_Pe_countOrder 22 = .ok (.iconst 1, 1) := by decide +kernel
theorem d_Pe_countOrder_23 : decode b_Pe_countOrder 23 = .ok (.ireturn, 1) := by decide +kernel
abbrev b_Pe_obey : ByteArray := prog_4_method_4_code
theorem d_Pe_obey_0 : decode b_Pe_obey 0 = .ok (.iload_n 1, 1) := by decide +kernel
theorem d_Pe_obey_1 : decode b_Pe_obey 1 = .ok (.tableswitch 209 60 87 #[204, 209, 209, 209, 209, 209, 132, 209, 173, 180, 127, 209, 209, 209, 209, 209, 152, 209, 209, 209, 209, 209, 138, 209, 209, 166, 209, 186], 127) := by decide +kernel
theorem d_Pe_obey_128 : decode b_Pe_obey 128 = .ok (.aload_n 0, 1) := by decide +kernel
theorem d_Pe_obey_129 : decode b_Pe_obey 129 = .ok (.invokevirtual 39, 3) := by decide +kernel
theorem d_Pe_obey_132 : decode b_Pe_obey 132 = .ok (.ireturn, 1) := by decide +kernel
theorem d_Pe_obey_133 : decode b_Pe_obey 133 = .ok (.aload_n 0, 1) := by decide +kernel
theorem d_Pe_obey_134 : decode b_Pe_obey 134 = .ok (.iconst (-1), 1) := by decide +kernel
theorem d_Pe_obey_135 : decode b_Pe_obey 135 = .ok (.invokevirtual 43, 3) := by decide +kernel
theorem d_Pe_obey_138 : decode b_Pe_obey 138 = .ok (.ireturn, 1) := by decide +kernel
theorem d_Pe_obey_139 : decode b_Pe_obey 139 = .ok (.aload_n 0, 1) := by decide +kernel
theorem d_Pe_obey_140 : decode b_Pe_obey 140 = .ok (.aload_n 0, 1) := by decide +kernel
theorem d_Pe_obey_141 : decode b_Pe_obey 141 = .ok (.getfield 25, 3) := by decide +kernel
theorem d_Pe_obey_144 : decode b_Pe_obey 144 = .ok (.iconst 1, 1) := by decide +kernel
theorem d_Pe_obey_145 : decode b_Pe_obey 145 = .ok (.iadd, 1) := by decide +kernel
theorem d_Pe_obey_146 : decode b_Pe_obey 146 = .ok (.iconst 4, 1) := by decide +kernel
theorem d_Pe_obey_147 : decode b_Pe_obey 147 = .ok (.irem, 1) := by decide +kernel
theorem d_Pe_obey_148 : decode b_Pe_obey 148 = .ok (.putfield 25, 3) := by decide +kernel
theorem d_Pe_obey_151 : decode b_Pe_obey 151 = .ok (.iconst 1, 1) := by decide +kernel
theorem d_Pe_obey_152 : decode b_Pe_obey 152 = .ok (.ireturn, 1) := by decide +kernel
theorem d_Pe_obey_153 : decode b_Pe_obey 153 = .ok (.aload_n 0, 1) := by decide +kernel
theorem d_Pe_obey_154 : decode b_Pe_obey 154 = .ok (.aload_n 0, 1) := by decide +kernel
theorem d_Pe_obey_155 : decode b_Pe_obey 155 = .ok (.getfield 25, 3) := by decide +kernel
theorem d_Pe_obey_158 : decode b_Pe_obey 158 = .ok (.iconst 3, 1) := by decide +kernel
theorem d_Pe_obey_159 : decode b_Pe_obey 159 = .ok (.iadd, 1) := by decide +kernel
theorem d_Pe_obey_160 : decode b_Pe_obey 160 = .ok (.iconst 4, 1) := by decide +kernel
theorem d_Pe_obey_161 : decode b_Pe_obey 161 = .ok (.irem, 1) := by decide +kernel
theorem d_Pe_obey_162 : decode b_Pe_obey 162 = .ok (.putfield 25, 3) := by decide +kernel
theorem d_Pe_obey_165 : decode b_Pe_obey 165 = .ok (.iconst 1, 1) := by decide +kernel
theorem d_Pe_obey_166 : decode b_Pe_obey 166 = .ok (.ireturn, 1) := by decide +kernel
theorem d_Pe_obey_167 : decode b_Pe_obey 167 = .ok (.aload_n 0, 1) := by decide +kernel
theorem d_Pe_obey_168 : decode b_Pe_obey 168 = .ok (.iconst 0, 1) := by decide +kernel
theorem d_Pe_obey_169 : decode b_Pe_obey 169 = .ok (.putfield 28, 3) := by decide +kernel
theorem d_Pe_obey_172 : decode b_Pe_obey 172 = .ok (.iconst 1, 1) := by decide +kernel
theorem d_Pe_obey_173 : decode b_Pe_obey 173 = .ok (.ireturn, 1) := by decide +kernel
theorem d_Pe_obey_174 : decode b_Pe_obey 174 = .ok (.aload_n 0, 1) := by decide +kernel
theorem d_Pe_obey_175 : decode b_Pe_obey 175 = .ok (.iconst 1, 1) := by decide +kernel
theorem d_Pe_obey_176 : decode b_Pe_obey 176 = .ok (.putfield 28, 3) := by decide +kernel
theorem d_Pe_obey_179 : decode b_Pe_obey 179 = .ok (.iconst 1, 1) := by decide +kernel
theorem d_Pe_obey_180 : decode b_Pe_obey 180 = .ok (.ireturn, 1) := by decide +kernel
theorem d_Pe_obey_181 : decode b_Pe_obey 181 = .ok (.aload_n 0, 1) := by decide +kernel
theorem d_Pe_obey_182 : decode b_Pe_obey 182 = .ok (.invokevirtual 47, 3) := by decide +kernel
theorem d_Pe_obey_185 : decode b_Pe_obey 185 = .ok (.iconst 1, 1) := by decide +kernel
theorem d_Pe_obey_186 : decode b_Pe_obey 186 = .ok (.ireturn, 1) := by decide +kernel
theorem d_Pe_obey_187 : decode b_Pe_obey 187 = .ok (.aload_n 0, 1) := by decide +kernel
theorem d_Pe_obey_188 : decode b_Pe_obey 188 = .ok (.getfield 12, 3) := by decide +kernel
theorem d_Pe_obey_191 : decode b_Pe_obey 191 = .ok (.aload_n 0, 1) := by decide +kernel
theorem d_Pe_obey_192 : decode b_Pe_obey 192 = .ok (.getfield 18, 3) := by decide +kernel
theorem d_Pe_obey_195 : decode b_Pe_obey 195 = .ok (.aload_n 0, 1) := by decide +kernel
theorem d_Pe_obey_196 : decode b_Pe_obey 196 = .ok (.getfield 22, 3) := by decide +kernel
theorem d_Pe_obey_199 : decode b_Pe_obey 199 = .ok (.iconst 0, 1) := by decide +kernel
theorem d_Pe_obey_200 : decode b_Pe_obey 200 = .ok (.invokevirtual 50, 3) := by decide +kernel
theorem d_Pe_obey_203 : decode b_Pe_obey 203 = .ok (.iconst 1, 1) := by decide +kernel
theorem d_Pe_obey_204 : decode b_Pe_obey 204 = .ok (.ireturn, 1) := by decide +kernel
theorem d_Pe_obey_205 : decode b_Pe_obey 205 = .ok (.aload_n 0, 1) := by decide +kernel
theorem d_Pe_obey_206 : decode b_Pe_obey 206 = .ok (.invokevirtual 54, 3) := by decide +kernel
theorem d_Pe_obey_209 : decode b_Pe_obey 209 = .ok (.ireturn, 1) := by decide +kernel
theorem d_Pe_obey_210 : decode b_Pe_obey 210 = .ok (.iconst 0, 1) := by decide +kernel
theorem d_Pe_obey_211 : decode b_Pe_obey 211 = .ok (.ireturn, 1) := by decide +kernel
abbrev b_Pe_columnAt : ByteArray := prog_4_method_5_code
theorem d_Pe_columnAt_0 : decode b_Pe_columnAt 0 = .ok (.aload_n 0, 1) := by decide +kernel
theorem d_Pe_columnAt_1 : decode b_Pe_columnAt 1 = .ok (.getfield 18, 3) := by decide +kernel
theorem d_Pe_columnAt_4 : decode b_Pe_columnAt 4 = .ok (.iload_n 1, 1) := by decide +kernel
theorem d_Pe_columnAt_5 : decode b_Pe_columnAt 5 = .ok (.getstatic 57, 3) := by decide +kernel
theorem d_Pe_columnAt_8 : decode b_Pe_columnAt 8 = .ok (.aload_n 0, 1) := by decide +kernel
theorem d_Pe_columnAt_9 : decode b_Pe_columnAt 9 = .ok (.getfield 25, 3) := by decide +kernel
theorem d_Pe_columnAt_12 : decode b_Pe_columnAt 12 = .ok (.iaload, 1) := by decide +kernel
theorem d_Pe_columnAt_13 : decode b_Pe_columnAt 13 = .ok (.imul, 1) := by decide +kernel
theorem d_Pe_columnAt_14 : decode b_Pe_columnAt 14 = .ok (.iadd, 1) := by decide +kernel
theorem d_Pe_columnAt_15 : decode b_Pe_columnAt 15 = .ok (.iload_n 2, 1) := by decide +kernel
theorem d_Pe_columnAt_16 : decode b_Pe_columnAt 16 = .ok (.getstatic 57, 3) := by decide +kernel
theorem d_Pe_columnAt_19 : decode b_Pe_columnAt 19 = .ok (.aload_n 0, 1) := by decide +kernel
theorem d_Pe_columnAt_20 : decode b_Pe_columnAt 20 = .ok (.getfield 25, 3) := by decide +kernel
theorem d_Pe_columnAt_23 : decode b_Pe_columnAt 23 = .ok (.iconst 1, 1) := by decide +kernel
theorem d_Pe_columnAt_24 : decode b_Pe_columnAt 24 = .ok (.iadd, 1) := by decide +kernel
theorem d_Pe_columnAt_25 : decode b_Pe_columnAt 25 = .ok (.iconst 4, 1) := by decide +kernel
theorem d_Pe_columnAt_26 : decode b_Pe_columnAt 26 = .ok (.irem, 1) := by decide +kernel
theorem d_Pe_columnAt_27 : decode b_Pe_columnAt 27 = .ok (.iaload, 1) := by decide +kernel
theorem d_Pe_columnAt_28 : decode b_Pe_columnAt 28 = .ok (.imul, 1) := by decide +kernel
theorem d_Pe_columnAt_29 : decode b_Pe_columnAt 29 = .ok (.iadd, 1) := by decide +kernel
theorem d_Pe_columnAt_30 : decode b_Pe_columnAt 30 = .ok (.ireturn, 1) := by decide +kernel
abbrev b_Pe_rowAt : ByteArray := prog_4_method_6_code
theorem d_Pe_rowAt_0 : decode b_Pe_rowAt 0 = .ok (.aload_n 0, 1) := by decide +kernel
theorem d_Pe_rowAt_1 : decode b_Pe_rowAt 1 = .ok (.getfield 22, 3) := by decide +kernel
theorem d_Pe_rowAt_4 : decode b_Pe_rowAt 4 = .ok (.iload_n 1, 1) := by decide +kernel
theorem d_Pe_rowAt_5 : decode b_Pe_rowAt 5 = .ok (.getstatic 61, 3) := by decide +kernel
theorem d_Pe_rowAt_8 : decode b_Pe_rowAt 8 = .ok (.aload_n 0, 1) := by decide +kernel
theorem d_Pe_rowAt_9 : decode b_Pe_rowAt 9 = .ok (.getfield 25, 3) := by decide +kernel
theorem d_Pe_rowAt_12 : decode b_Pe_rowAt 12 = .ok (.iaload, 1) := by decide +kernel
theorem d_Pe_rowAt_13 : decode b_Pe_rowAt 13 = .ok (.imul, 1) := by decide +kernel
theorem d_Pe_rowAt_14 : decode b_Pe_rowAt 14 = .ok (.iadd, 1) := by decide +kernel
theorem d_Pe_rowAt_15 : decode b_Pe_rowAt 15 = .ok (.iload_n 2, 1) := by decide +kernel
theorem d_Pe_rowAt_16 : decode b_Pe_rowAt 16 = .ok (.getstatic 61, 3) := by decide +kernel
theorem d_Pe_rowAt_19 : decode b_Pe_rowAt 19 = .ok (.aload_n 0, 1) := by decide +kernel
theorem d_Pe_rowAt_20 : decode b_Pe_rowAt 20 = .ok (.getfield 25, 3) := by decide +kernel
theorem d_Pe_rowAt_23 : decode b_Pe_rowAt 23 = .ok (.iconst 1, 1) := by decide +kernel
theorem d_Pe_rowAt_24 : decode b_Pe_rowAt 24 = .ok (.iadd, 1) := by decide +kernel
theorem d_Pe_rowAt_25 : decode b_Pe_rowAt 25 = .ok (.iconst 4, 1) := by decide +kernel
theorem d_Pe_rowAt_26 : decode b_Pe_rowAt 26 = .ok (.irem, 1) := by decide +kernel
theorem d_Pe_rowAt_27 : decode b_Pe_rowAt 27 = .ok (.iaload, 1) := by decide +kernel
theorem d_Pe_rowAt_28 : decode b_Pe_rowAt 28 = .ok (.imul, 1) := by decide +kernel
theorem d_Pe_rowAt_29 : decode b_Pe_rowAt 29 = .ok (.iadd, 1) := by decide +kernel
theorem d_Pe_rowAt_30 : decode b_Pe_rowAt 30 = .ok (.ireturn, 1) := by decide +kernel
abbrev b_Pe_hasCell : ByteArray := prog_4_method_7_code
theorem d_Pe_hasCell_0 : decode b_Pe_hasCell 0 = .ok (.aload_n 0, 1) := by decide +kernel
theorem d_Pe_hasCell_1 : decode b_Pe_hasCell 1 = .ok (.iload_n 1, 1) := by decide +kernel
theorem d_Pe_hasCell_2 : decode b_Pe_hasCell 2 = .ok (.iload_n 2, 1) := by decide +kernel
theorem d_Pe_hasCell_3 : decode b_Pe_hasCell 3 = .ok (.invokevirtual 64, 3) := by decide +kernel
theorem d_Pe_hasCell_6 : decode b_Pe_hasCell 6 = .ok (.aload_n 0, 1) := by decide +kernel
theorem d_Pe_hasCell_7 : decode b_Pe_hasCell 7 = .ok (.iload_n 1, 1) := by decide +kernel
theorem d_Pe_hasCell_8 : decode b_Pe_hasCell 8 = .ok (.iload_n 2, 1) := by decide +kernel
theorem d_Pe_hasCell_9 : decode b_Pe_hasCell 9 = .ok (.invokevirtual 68, 3) := by decide +kernel
theorem d_Pe_hasCell_12 : decode b_Pe_hasCell 12 = .ok (.invokestatic 71, 3) := by decide +kernel
theorem d_Pe_hasCell_15 : decode b_Pe_hasCell 15 = .ok (.ireturn, 1) := by decide +kernel
abbrev b_Pe_mark : ByteArray := prog_4_method_8_code
theorem d_Pe_mark_0 : decode b_Pe_mark 0 = .ok (.aload_n 0, 1) := by decide +kernel
theorem d_Pe_mark_1 : decode b_Pe_mark 1 = .ok (.getfield 28, 3) := by decide +kernel
theorem d_Pe_mark_4 : decode b_Pe_mark 4 = .ok (.ifCond .eq 23, 3) := by decide +kernel
theorem d_Pe_mark_7 : decode b_Pe_mark 7 = .ok (.aload_n 0, 1) := by decide +kernel
theorem d_Pe_mark_8 : decode b_Pe_mark 8 = .ok (.getfield 12, 3) := by decide +kernel
theorem d_Pe_mark_11 : decode b_Pe_mark 11 = .ok (.aload_n 0, 1) := by decide +kernel
theorem d_Pe_mark_12 : decode b_Pe_mark 12 = .ok (.iload_n 1, 1) := by decide +kernel
theorem d_Pe_mark_13 : decode b_Pe_mark 13 = .ok (.iload_n 2, 1) := by decide +kernel
theorem d_Pe_mark_14 : decode b_Pe_mark 14 = .ok (.invokevirtual 64, 3) := by decide +kernel
theorem d_Pe_mark_17 : decode b_Pe_mark 17 = .ok (.aload_n 0, 1) := by decide +kernel
theorem d_Pe_mark_18 : decode b_Pe_mark 18 = .ok (.iload_n 1, 1) := by decide +kernel
theorem d_Pe_mark_19 : decode b_Pe_mark 19 = .ok (.iload_n 2, 1) := by decide +kernel
theorem d_Pe_mark_20 : decode b_Pe_mark 20 = .ok (.invokevirtual 68, 3) := by decide +kernel
theorem d_Pe_mark_23 : decode b_Pe_mark 23 = .ok (.iconst 3, 1) := by decide +kernel
theorem d_Pe_mark_24 : decode b_Pe_mark 24 = .ok (.invokevirtual 50, 3) := by decide +kernel
theorem d_Pe_mark_27 : decode b_Pe_mark 27 = .ok (.return_, 1) := by decide +kernel
abbrev b_Pe_move : ByteArray := prog_4_method_9_code
theorem d_Pe_move_0 : decode b_Pe_move 0 = .ok (.aload_n 0, 1) := by decide +kernel
theorem d_Pe_move_1 : decode b_Pe_move 1 = .ok (.iload_n 1, 1) := by decide +kernel
theorem d_Pe_move_2 : decode b_Pe_move 2 = .ok (.iconst 0, 1) := by decide +kernel
theorem d_Pe_move_3 : decode b_Pe_move 3 = .ok (.invokevirtual 64, 3) := by decide +kernel
theorem d_Pe_move_6 : decode b_Pe_move 6 = .ok (.istore_n 2, 1) := by decide +kernel
theorem d_Pe_move_7 : decode b_Pe_move 7 = .ok (.aload_n 0, 1) := by decide +kernel
theorem d_Pe_move_8 : decode b_Pe_move 8 = .ok (.iload_n 1, 1) := by decide +kernel
theorem d_Pe_move_9 : decode b_Pe_move 9 = .ok (.iconst 0, 1) := by decide +kernel
theorem d_Pe_move_10 : decode b_Pe_move 10 = .ok (.invokevirtual 68, 3) := by decide +kernel
theorem d_Pe_move_13 : decode b_Pe_move 13 = .ok (.istore_n 3, 1) := by decide +kernel
theorem d_Pe_move_14 : decode b_Pe_move 14 = .ok (.iload_n 2, 1) := by decide +kernel
theorem d_Pe_move_15 : decode b_Pe_move 15 = .ok (.iload_n 3, 1) := by decide +kernel
theorem d_Pe_move_16 : decode b_Pe_move 16 = .ok (.invokestatic 71, 3) := by decide +kernel
theorem d_Pe_move_19 : decode b_Pe_move 19 = .ok (.ifCond .ne 5, 3) := by decide +kernel
theorem d_Pe_move_22 : decode b_Pe_move 22 = .ok (.iconst 0, 1) := by decide +kernel
theorem d_Pe_move_23 : decode b_Pe_move 23 = .ok (.ireturn, 1) := by decide +kernel
theorem d_Pe_move_24 : decode b_Pe_move 24 = .ok (.aload_n 0, 1) := by decide +kernel
theorem d_Pe_move_25 : decode b_Pe_move 25 = .ok (.iload_n 2, 1) := by decide +kernel
theorem d_Pe_move_26 : decode b_Pe_move 26 = .ok (.putfield 18, 3) := by decide +kernel
theorem d_Pe_move_29 : decode b_Pe_move 29 = .ok (.aload_n 0, 1) := by decide +kernel
theorem d_Pe_move_30 : decode b_Pe_move 30 = .ok (.iload_n 3, 1) := by decide +kernel
theorem d_Pe_move_31 : decode b_Pe_move 31 = .ok (.putfield 22, 3) := by decide +kernel
theorem d_Pe_move_34 : decode b_Pe_move 34 = .ok (.iconst 1, 1) := by decide +kernel
theorem d_Pe_move_35 : decode b_Pe_move 35 = .ok (.ireturn, 1) := by decide +kernel
abbrev b_Pe_drawForward : ByteArray := prog_4_method_10_code
theorem d_Pe_drawForward_0 : decode b_Pe_drawForward 0 = .ok (.aload_n 0, 1) := by decide +kernel
theorem d_Pe_drawForward_1 : decode b_Pe_drawForward 1 = .ok (.iconst 1, 1) := by decide +kernel
theorem d_Pe_drawForward_2 : decode b_Pe_drawForward 2 = .ok (.invokevirtual 43, 3) := by decide +kernel
theorem d_Pe_drawForward_5 : decode b_Pe_drawForward 5 = .ok (.ifCond .ne 5, 3) := by decide +kernel
theorem d_Pe_drawForward_8 : decode b_Pe_drawForward 8 = .ok (.iconst 0, 1) := by decide +kernel
theorem d_Pe_drawForward_9 : decode b_Pe_drawForward 9 = .ok (.ireturn, 1) := by decide +kernel
theorem d_Pe_drawForward_10 : decode b_Pe_drawForward 10 = .ok (.aload_n 0, 1) := by decide +kernel
theorem d_Pe_drawForward_11 : decode b_Pe_drawForward 11 = .ok (.iconst 0, 1) := by decide +kernel
theorem d_Pe_drawForward_12 : decode b_Pe_drawForward 12 = .ok (.iconst 0, 1) := by decide +kernel
theorem d_Pe_drawForward_13 : decode b_Pe_drawForward 13 = .ok (.invokevirtual 75, 3) := by decide +kernel
theorem d_Pe_drawForward_16 : decode b_Pe_drawForward 16 = .ok (.iconst 1, 1) := by decide +kernel
theorem d_Pe_drawForward_17 : decode b_Pe_drawForward 17 = .ok (.ireturn, 1) := by decide +kernel
abbrev b_Pe_putElectron : ByteArray := prog_4_method_11_code
theorem d_Pe_putElectron_0 : decode b_Pe_putElectron 0 = .ok (.aload_n 0, 1) := by decide +kernel
theorem d_Pe_putElectron_1 : decode b_Pe_putElectron 1 = .ok (.getfield 12, 3) := by decide +kernel
theorem d_Pe_putElectron_4 : decode b_Pe_putElectron 4 = .ok (.aload_n 0, 1) := by decide +kernel
theorem d_Pe_putElectron_5 : decode b_Pe_putElectron 5 = .ok (.getfield 18, 3) := by decide +kernel
theorem d_Pe_putElectron_8 : decode b_Pe_putElectron 8 = .ok (.aload_n 0, 1) := by decide +kernel
theorem d_Pe_putElectron_9 : decode b_Pe_putElectron 9 = .ok (.getfield 22, 3) := by decide +kernel
theorem d_Pe_putElectron_12 : decode b_Pe_putElectron 12 = .ok (.iconst 1, 1) := by decide +kernel
theorem d_Pe_putElectron_13 : decode b_Pe_putElectron 13 = .ok (.invokevirtual 50, 3) := by decide +kernel
theorem d_Pe_putElectron_16 : decode b_Pe_putElectron 16 = .ok (.aload_n 0, 1) := by decide +kernel
theorem d_Pe_putElectron_17 : decode b_Pe_putElectron 17 = .ok (.iconst (-1), 1) := by decide +kernel
theorem d_Pe_putElectron_18 : decode b_Pe_putElectron 18 = .ok (.iconst 0, 1) := by decide +kernel
theorem d_Pe_putElectron_19 : decode b_Pe_putElectron 19 = .ok (.invokevirtual 64, 3) := by decide +kernel
theorem d_Pe_putElectron_22 : decode b_Pe_putElectron 22 = .ok (.istore_n 1, 1) := by decide +kernel
theorem d_Pe_putElectron_23 : decode b_Pe_putElectron 23 = .ok (.aload_n 0, 1) := by decide +kernel
theorem d_Pe_putElectron_24 : decode b_Pe_putElectron 24 = .ok (.iconst (-1), 1) := by decide +kernel
theorem d_Pe_putElectron_25 : decode b_Pe_putElectron 25 = .ok (.iconst 0, 1) := by decide +kernel
theorem d_Pe_putElectron_26 : decode b_Pe_putElectron 26 = .ok (.invokevirtual 68, 3) := by decide +kernel
theorem d_Pe_putElectron_29 : decode b_Pe_putElectron 29 = .ok (.istore_n 2, 1) := by decide +kernel
theorem d_Pe_putElectron_30 : decode b_Pe_putElectron 30 = .ok (.aload_n 0, 1) := by decide +kernel
theorem d_Pe_putElectron_31 : decode b_Pe_putElectron 31 = .ok (.getfield 12, 3) := by decide +kernel
theorem d_Pe_putElectron_34 : decode b_Pe_putElectron 34 = .ok (.iload_n 1, 1) := by decide +kernel
theorem d_Pe_putElectron_35 : decode b_Pe_putElectron 35 = .ok (.iload_n 2, 1) := by decide +kernel
theorem d_Pe_putElectron_36 : decode b_Pe_putElectron 36 = .ok (.invokevirtual 79, 3) := by decide +kernel
theorem d_Pe_putElectron_39 : decode b_Pe_putElectron 39 = .ok (.iconst 3, 1) := by decide +kernel
theorem d_Pe_putElectron_40 : decode b_Pe_putElectron 40 = .ok (.if_icmp .ne 13, 3) := by decide +kernel
theorem d_Pe_putElectron_43 : decode b_Pe_putElectron 43 = .ok (.aload_n 0, 1) := by decide +kernel
theorem d_Pe_putElectron_44 : decode b_Pe_putElectron 44 = .ok (.getfield 12, 3) := by decide +kernel
theorem d_Pe_putElectron_47 : decode b_Pe_putElectron 47 = .ok (.iload_n 1, 1) := by decide +kernel
theorem d_Pe_putElectron_48 : decode b_Pe_putElectron 48 = .ok (.iload_n 2, 1) := by decide +kernel
theorem d_Pe_putElectron_49 : decode b_Pe_putElectron 49 = .ok (.iconst 2, 1) := by decide +kernel
theorem d_Pe_putElectron_50 : decode b_Pe_putElectron 50 = .ok (.invokevirtual 50, 3) := by decide +kernel
theorem d_Pe_putElectron_53 : decode b_Pe_putElectron 53 = .ok (.return_, 1) := by decide +kernel
abbrev b_Pe_drawDiode : ByteArray := prog_4_method_12_code
theorem d_Pe_drawDiode_0 : decode b_Pe_drawDiode 0 = .ok (.aload_n 0, 1) := by decide +kernel
theorem d_Pe_drawDiode_1 : decode b_Pe_drawDiode 1 = .ok (.iconst 4, 1) := by decide +kernel
theorem d_Pe_drawDiode_2 : decode b_Pe_drawDiode 2 = .ok (.iconst 0, 1) := by decide +kernel
theorem d_Pe_drawDiode_3 : decode b_Pe_drawDiode 3 = .ok (.invokevirtual 82, 3) := by decide +kernel
theorem d_Pe_drawDiode_6 : decode b_Pe_drawDiode 6 = .ok (.ifCond .eq 21, 3) := by decide +kernel
theorem d_Pe_drawDiode_9 : decode b_Pe_drawDiode 9 = .ok (.aload_n 0, 1) := by decide +kernel
theorem d_Pe_drawDiode_10 : decode b_Pe_drawDiode 10 = .ok (.iconst 2, 1) := by decide +kernel
theorem d_Pe_drawDiode_11 : decode b_Pe_drawDiode 11 = .ok (.iconst (-1), 1) := by decide +kernel
theorem d_Pe_drawDiode_12 : decode b_Pe_drawDiode 12 = .ok (.invokevirtual 82, 3) := by decide +kernel
theorem d_Pe_drawDiode_15 : decode b_Pe_drawDiode 15 = .ok (.ifCond .eq 12, 3) := by decide +kernel
theorem d_Pe_drawDiode_18 : decode b_Pe_drawDiode 18 = .ok (.aload_n 0, 1) := by decide +kernel
theorem d_Pe_drawDiode_19 : decode b_Pe_drawDiode 19 = .ok (.iconst 2, 1) := by decide +kernel
theorem d_Pe_drawDiode_20 : decode b_Pe_drawDiode 20 = .ok (.iconst 1, 1) := by decide +kernel
theorem d_Pe_drawDiode_21 : decode b_Pe_drawDiode 21 = .ok (.invokevirtual 82, 3) := by decide +kernel
theorem d_Pe_drawDiode_24 : decode b_Pe_drawDiode 24 = .ok (.ifCond .ne 5, 3) := by decide +kernel
theorem d_Pe_drawDiode_27 : decode b_Pe_drawDiode 27 = .ok (.iconst 0, 1) := by decide +kernel
theorem d_Pe_drawDiode_28 : decode b_Pe_drawDiode 28 = .ok (.ireturn, 1) := by decide +kernel
theorem d_Pe_drawDiode_29 : decode b_Pe_drawDiode 29 = .ok (.aload_n 0, 1) := by decide +kernel
theorem d_Pe_drawDiode_30 : decode b_Pe_drawDiode 30 = .ok (.iconst 1, 1) := by decide +kernel
theorem d_Pe_drawDiode_31 : decode b_Pe_drawDiode 31 = .ok (.iconst 0, 1) := by decide +kernel
theorem d_Pe_drawDiode_32 : decode b_Pe_drawDiode 32 = .ok (.invokevirtual 75, 3) := by decide +kernel
theorem d_Pe_drawDiode_35 : decode b_Pe_drawDiode 35 = .ok (.aload_n 0, 1) := by decide +kernel
theorem d_Pe_drawDiode_36 : decode b_Pe_drawDiode 36 = .ok (.iconst 2, 1) := by decide +kernel
theorem d_Pe_drawDiode_37 : decode b_Pe_drawDiode 37 = .ok (.iconst (-1), 1) := by decide +kernel
theorem d_Pe_drawDiode_38 : decode b_Pe_drawDiode 38 = .ok (.invokevirtual 75, 3) := by decide +kernel
theorem d_Pe_drawDiode_41 : decode b_Pe_drawDiode 41 = .ok (.aload_n 0, 1) := by decide +kernel
theorem d_Pe_drawDiode_42 : decode b_Pe_drawDiode 42 = .ok (.iconst 2, 1) := by decide +kernel
theorem d_Pe_drawDiode_43 : decode b_Pe_drawDiode 43 = .ok (.iconst 1, 1) := by decide +kernel
theorem d_Pe_drawDiode_44 : decode b_Pe_drawDiode 44 = .ok (.invokevirtual 75, 3) := by decide +kernel
theorem d_Pe_drawDiode_47 : decode b_Pe_drawDiode 47 = .ok (.aload_n 0, 1) := by decide +kernel
theorem d_Pe_drawDiode_48 : decode b_Pe_drawDiode 48 = .ok (.iconst 3, 1) := by decide +kernel
theorem d_Pe_drawDiode_49 : decode b_Pe_drawDiode 49 = .ok (.iconst (-1), 1) := by decide +kernel
theorem d_Pe_drawDiode_50 : decode b_Pe_drawDiode 50 = .ok (.invokevirtual 75, 3) := by decide +kernel
theorem d_Pe_drawDiode_53 : decode b_Pe_drawDiode 53 = .ok (.aload_n 0, 1) := by decide +kernel
theorem d_Pe_drawDiode_54 : decode b_Pe_drawDiode 54 = .ok (.iconst 3, 1) := by decide +kernel
theorem d_Pe_drawDiode_55 : decode b_Pe_drawDiode 55 = .ok (.iconst 0, 1) := by decide +kernel
theorem d_Pe_drawDiode_56 : decode b_Pe_drawDiode 56 = .ok (.invokevirtual 75, 3) := by decide +kernel
theorem d_Pe_drawDiode_59 : decode b_Pe_drawDiode 59 = .ok (.aload_n 0, 1) := by decide +kernel
theorem d_Pe_drawDiode_60 : decode b_Pe_drawDiode 60 = .ok (.iconst 3, 1) := by decide +kernel
theorem d_Pe_drawDiode_61 : decode b_Pe_drawDiode 61 = .ok (.iconst 1, 1) := by decide +kernel
theorem d_Pe_drawDiode_62 : decode b_Pe_drawDiode 62 = .ok (.invokevirtual 75, 3) := by decide +kernel
theorem d_Pe_drawDiode_65 : decode b_Pe_drawDiode 65 = .ok (.aload_n 0, 1) := by decide +kernel
theorem d_Pe_drawDiode_66 : decode b_Pe_drawDiode 66 = .ok (.iconst 4, 1) := by decide +kernel
theorem d_Pe_drawDiode_67 : decode b_Pe_drawDiode 67 = .ok (.iconst 0, 1) := by decide +kernel
theorem d_Pe_drawDiode_68 : decode b_Pe_drawDiode 68 = .ok (.invokevirtual 75, 3) := by decide +kernel
theorem d_Pe_drawDiode_71 : decode b_Pe_drawDiode 71 = .ok (.aload_n 0, 1) := by decide +kernel
theorem d_Pe_drawDiode_72 : decode b_Pe_drawDiode 72 = .ok (.iconst 4, 1) := by decide +kernel
theorem d_Pe_drawDiode_73 : decode b_Pe_drawDiode 73 = .ok (.invokevirtual 43, 3) := by decide +kernel
theorem d_Pe_drawDiode_76 : decode b_Pe_drawDiode 76 = .ok (.ireturn, 1) := by decide +kernel
abbrev b_Pr_init : ByteArray := prog_5_method_1_code
theorem d_Pr_init_0 : decode b_Pr_init 0 = .ok (.aload_n 0, 1) := by decide +kernel
theorem d_Pr_init_1 : decode b_Pr_init 1 = .ok (.invokespecial 3, 3) := by decide +kernel
theorem d_Pr_init_4 : decode b_Pr_init 4 = .ok (.aload_n 0, 1) := by decide +kernel
theorem d_Pr_init_5 : decode b_Pr_init 5 = .ok (.iconst 0, 1) := by decide +kernel
theorem d_Pr_init_6 : decode b_Pr_init 6 = .ok (.putfield 9, 3) := by decide +kernel
theorem d_Pr_init_9 : decode b_Pr_init 9 = .ok (.aload_n 0, 1) := by decide +kernel
theorem d_Pr_init_10 : decode b_Pr_init 10 = .ok (.iconst 0, 1) := by decide +kernel
theorem d_Pr_init_11 : decode b_Pr_init 11 = .ok (.putfield 15, 3) := by decide +kernel
theorem d_Pr_init_14 : decode b_Pr_init 14 = .ok (.aload_n 0, 1) := by decide +kernel
theorem d_Pr_init_15 : decode b_Pr_init 15 = .ok (.iconst 0, 1) := by decide +kernel
theorem d_Pr_init_16 : decode b_Pr_init 16 = .ok (.putfield 18, 3) := by decide +kernel
theorem d_Pr_init_19 : decode b_Pr_init 19 = .ok (.aload_n 0, 1) := by decide +kernel
theorem d_Pr_init_20 : decode b_Pr_init 20 = .ok (.iconst (-1), 1) := by decide +kernel
theorem d_Pr_init_21 : decode b_Pr_init 21 = .ok (.putfield 21, 3) := by decide +kernel
theorem d_Pr_init_24 : decode b_Pr_init 24 = .ok (.aload_n 0, 1) := by decide +kernel
theorem d_Pr_init_25 : decode b_Pr_init 25 = .ok (.lconst 0, 1) := by decide +kernel
theorem d_Pr_init_26 : decode b_Pr_init 26 = .ok (.putfield 24, 3) := by decide +kernel
theorem d_Pr_init_29 : decode b_Pr_init 29 = .ok (.return_, 1) := by decide +kernel
abbrev b_Pr_begin : ByteArray := prog_5_method_2_code
theorem d_Pr_begin_0 : decode b_Pr_begin 0 = .ok (.aload_n 0, 1) := by decide +kernel
theorem d_Pr_begin_1 : decode b_Pr_begin 1 = .ok (.iload_n 1, 1) := by decide +kernel
theorem d_Pr_begin_2 : decode b_Pr_begin 2 = .ok (.putfield 9, 3) := by decide +kernel
theorem d_Pr_begin_5 : decode b_Pr_begin 5 = .ok (.aload_n 0, 1) := by decide +kernel
theorem d_Pr_begin_6 : decode b_Pr_begin 6 = .ok (.iload_n 2, 1) := by decide +kernel
theorem d_Pr_begin_7 : decode b_Pr_begin 7 = .ok (.putfield 15, 3) := by decide +kernel
theorem d_Pr_begin_10 : decode b_Pr_begin 10 = .ok (.return_, 1) := by decide +kernel
abbrev b_Pr_lookAt : ByteArray := prog_5_method_3_code
theorem d_Pr_lookAt_0 : decode b_Pr_lookAt 0 = .ok (.aload_n 1, 1) := by decide +kernel
theorem d_Pr_lookAt_1 : decode b_Pr_lookAt 1 = .ok (.aload_n 0, 1) := by decide +kernel
theorem d_Pr_lookAt_2 : decode b_Pr_lookAt 2 = .ok (.getfield 9, 3) := by decide +kernel
theorem d_Pr_lookAt_5 : decode b_Pr_lookAt 5 = .ok (.aload_n 0, 1) := by decide +kernel
theorem d_Pr_lookAt_6 : decode b_Pr_lookAt 6 = .ok (.getfield 15, 3) := by decide +kernel
theorem d_Pr_lookAt_9 : decode b_Pr_lookAt 9 = .ok (.invokevirtual 28, 3) := by decide +kernel
theorem d_Pr_lookAt_12 : decode b_Pr_lookAt 12 = .ok (.iconst 1, 1) := by decide +kernel
theorem d_Pr_lookAt_13 : decode b_Pr_lookAt 13 = .ok (.if_icmp .ne 7, 3) := by decide +kernel
theorem d_Pr_lookAt_16 : decode b_Pr_lookAt 16 = .ok (.iconst 1, 1) := by decide +kernel
theorem d_Pr_lookAt_17 : decode b_Pr_lookAt 17 = .ok (.goto 4, 3) := by decide +kernel
theorem d_Pr_lookAt_20 : decode b_Pr_lookAt 20 = .ok (.iconst 0, 1) := by decide +kernel
theorem d_Pr_lookAt_21 : decode b_Pr_lookAt 21 = .ok (.istore_n 3, 1) := by decide +kernel
theorem d_Pr_lookAt_22 : decode b_Pr_lookAt 22 = .ok (.aload_n 0, 1) := by decide +kernel
theorem d_Pr_lookAt_23 : decode b_Pr_lookAt 23 = .ok (.aload_n 0, 1) := by decide +kernel
theorem d_Pr_lookAt_24 : decode b_Pr_lookAt 24 = .ok (.getfield 24, 3) := by decide +kernel
theorem d_Pr_lookAt_27 : decode b_Pr_lookAt 27 = .ok (.ldc2_w 34, 3) := by decide +kernel
theorem d_Pr_lookAt_30 : decode b_Pr_lookAt 30 = .ok (.lmul, 1) := by decide +kernel
theorem d_Pr_lookAt_31 : decode b_Pr_lookAt 31 = .ok (.iload_n 3, 1) := by decide +kernel
theorem d_Pr_lookAt_32 : decode b_Pr_lookAt 32 = .ok (.ifCond .eq 7, 3) := by decide +kernel
theorem d_Pr_lookAt_35 : decode b_Pr_lookAt 35 = .ok (.iconst 1, 1) := by decide +kernel
theorem d_Pr_lookAt_36 : decode b_Pr_lookAt 36 = .ok (.goto 4, 3) := by decide +kernel
theorem d_Pr_lookAt_39 : decode b_Pr_lookAt 39 = .ok (.iconst 0, 1) := by decide +kernel
theorem d_Pr_lookAt_40 : decode b_Pr_lookAt 40 = .ok (.i2l, 1) := by decide +kernel
theorem d_Pr_lookAt_41 : decode b_Pr_lookAt 41 = .ok (.ladd, 1) := by decide +kernel
theorem d_Pr_lookAt_42 : decode b_Pr_lookAt 42 = .ok (.putfield 24, 3) := by decide +kernel
theorem d_Pr_lookAt_45 : decode b_Pr_lookAt 45 = .ok (.iload_n 3, 1) := by decide +kernel
theorem d_Pr_lookAt_46 : decode b_Pr_lookAt 46 = .ok (.ifCond .eq 18, 3) := by decide +kernel
theorem d_Pr_lookAt_49 : decode b_Pr_lookAt 49 = .ok (.aload_n 0, 1) := by decide +kernel
theorem d_Pr_lookAt_50 : decode b_Pr_lookAt 50 = .ok (.dup, 1) := by decide +kernel
theorem d_Pr_lookAt_51 : decode b_Pr_lookAt 51 = .ok (.getfield 18, 3) := by decide +kernel
theorem d_Pr_lookAt_54 : decode b_Pr_lookAt 54 = .ok (.iconst 1, 1) := by decide +kernel
theorem d_Pr_lookAt_55 : decode b_Pr_lookAt 55 = .ok (.iadd, 1) := by decide +kernel
theorem d_Pr_lookAt_56 : decode b_Pr_lookAt 56 = .ok (.putfield 18, 3) := by decide +kernel
theorem d_Pr_lookAt_59 : decode b_Pr_lookAt 59 = .ok (.aload_n 0, 1) := by decide +kernel
theorem d_Pr_lookAt_60 : decode b_Pr_lookAt 60 = .ok (.iload_n 2, 1) := by decide +kernel
theorem d_Pr_lookAt_61 : decode b_Pr_lookAt 61 = .ok (.putfield 21, 3) := by decide +kernel
theorem d_Pr_lookAt_64 : decode b_Pr_lookAt 64 = .ok (.return_, 1) := by decide +kernel
abbrev b_So_init : ByteArray := prog_6_method_1_code
theorem d_So_init_0 : decode b_So_init 0 = .ok (.aload_n 0, 1) := by decide +kernel
theorem d_So_init_1 : decode b_So_init 1 = .ok (.invokespecial 3, 3) := by decide +kernel
theorem d_So_init_4 : decode b_So_init 4 = .ok (.aload_n 0, 1) := by decide +kernel
theorem d_So_init_5 : decode b_So_init 5 = .ok (.iconst 0, 1) := by decide +kernel
theorem d_So_init_6 : decode b_So_init 6 = .ok (.putfield 9, 3) := by decide +kernel
theorem d_So_init_9 : decode b_So_init 9 = .ok (.aload_n 0, 1) := by decide +kernel
theorem d_So_init_10 : decode b_So_init 10 = .ok (.iconst 0, 1) := by decide +kernel
theorem d_So_init_11 : decode b_So_init 11 = .ok (.putfield 15, 3) := by decide +kernel
theorem d_So_init_14 : decode b_So_init 14 = .ok (.aload_n 0, 1) := by decide +kernel
theorem d_So_init_15 : decode b_So_init 15 = .ok (.lconst 0, 1) := by decide +kernel
theorem d_So_init_16 : decode b_So_init 16 = .ok (.putfield 18, 3) := by decide +kernel
theorem d_So_init_19 : decode b_So_init 19 = .ok (.aload_n 0, 1) := by decide +kernel
theorem d_So_init_20 : decode b_So_init 20 = .ok (.iconst 1, 1) := by decide +kernel
theorem d_So_init_21 : decode b_So_init 21 = .ok (.putfield 22, 3) := by decide +kernel
theorem d_So_init_24 : decode b_So_init 24 = .ok (.aload_n 0, 1) := by decide +kernel
theorem d_So_init_25 : decode b_So_init 25 = .ok (.iconst 0, 1) := by decide +kernel
theorem d_So_init_26 : decode b_So_init 26 = .ok (.putfield 25, 3) := by decide +kernel
theorem d_So_init_29 : decode b_So_init 29 = .ok (.return_, 1) := by decide +kernel
abbrev b_So_begin : ByteArray := prog_6_method_2_code
theorem d_So_begin_0 : decode b_So_begin 0 = .ok (.aload_n 0, 1) := by decide +kernel
theorem d_So_begin_1 : decode b_So_begin 1 = .ok (.iload_n 1, 1) := by decide +kernel
theorem d_So_begin_2 : decode b_So_begin 2 = .ok (.putfield 9, 3) := by decide +kernel
theorem d_So_begin_5 : decode b_So_begin 5 = .ok (.aload_n 0, 1) := by decide +kernel
theorem d_So_begin_6 : decode b_So_begin 6 = .ok (.iload_n 2, 1) := by decide +kernel
theorem d_So_begin_7 : decode b_So_begin 7 = .ok (.putfield 15, 3) := by decide +kernel
theorem d_So_begin_10 : decode b_So_begin 10 = .ok (.aload_n 0, 1) := by decide +kernel
theorem d_So_begin_11 : decode b_So_begin 11 = .ok (.lload_n 3, 1) := by decide +kernel
theorem d_So_begin_12 : decode b_So_begin 12 = .ok (.putfield 18, 3) := by decide +kernel
theorem d_So_begin_15 : decode b_So_begin 15 = .ok (.aload_n 0, 1) := by decide +kernel
theorem d_So_begin_16 : decode b_So_begin 16 = .ok (.iload 5, 2) := by decide +kernel
theorem d_So_begin_18 : decode b_So_begin 18 = .ok (.putfield 22, 3) := by decide +kernel
theorem d_So_begin_21 : decode b_So_begin 21 = .ok (.aload_n 0, 1) := by decide +kernel
theorem d_So_begin_22 : decode b_So_begin 22 = .ok (.iconst 0, 1) := by decide +kernel
theorem d_So_begin_23 : decode b_So_begin 23 = .ok (.putfield 25, 3) := by decide +kernel
theorem d_So_begin_26 : decode b_So_begin 26 = .ok (.return_, 1) := by decide +kernel
abbrev b_So_actOn : ByteArray := prog_6_method_3_code
theorem d_So_actOn_0 : decode b_So_actOn 0 = .ok (.aload_n 0, 1) := by decide +kernel
theorem d_So_actOn_1 : decode b_So_actOn 1 = .ok (.getfield 18, 3) := by decide +kernel
theorem d_So_actOn_4 : decode b_So_actOn 4 = .ok (.aload_n 0, 1) := by decide +kernel
theorem d_So_actOn_5 : decode b_So_actOn 5 = .ok (.getfield 25, 3) := by decide +kernel
theorem d_So_actOn_8 : decode b_So_actOn 8 = .ok (.lushr, 1) := by decide +kernel
theorem d_So_actOn_9 : decode b_So_actOn 9 = .ok (.lconst 1, 1) := by decide +kernel
theorem d_So_actOn_10 : decode b_So_actOn 10 = .ok (.land, 1) := by decide +kernel
theorem d_So_actOn_11 : decode b_So_actOn 11 = .ok (.lconst 1, 1) := by decide +kernel
theorem d_So_actOn_12 : decode b_So_actOn 12 = .ok (.lcmp, 1) := by decide +kernel
theorem d_So_actOn_13 : decode b_So_actOn 13 = .ok (.ifCond .ne 32, 3) := by decide +kernel
theorem d_So_actOn_16 : decode b_So_actOn 16 = .ok (.aload_n 1, 1) := by decide +kernel
theorem d_So_actOn_17 : decode b_So_actOn 17 = .ok (.aload_n 0, 1) := by decide +kernel
theorem d_So_actOn_18 : decode b_So_actOn 18 = .ok (.getfield 9, 3) := by decide +kernel
theorem d_So_actOn_21 : decode b_So_actOn 21 = .ok (.aload_n 0, 1) := by decide +kernel
theorem d_So_actOn_22 : decode b_So_actOn 22 = .ok (.getfield 15, 3) := by decide +kernel
theorem d_So_actOn_25 : decode b_So_actOn 25 = .ok (.invokevirtual 28, 3) := by decide +kernel
theorem d_So_actOn_28 : decode b_So_actOn 28 = .ok (.iconst 3, 1) := by decide +kernel
theorem d_So_actOn_29 : decode b_So_actOn 29 = .ok (.if_icmp .ne 16, 3) := by decide +kernel
theorem d_So_actOn_32 : decode b_So_actOn 32 = .ok (.aload_n 1, 1) := by decide +kernel
theorem d_So_actOn_33 : decode b_So_actOn 33 = .ok (.aload_n 0, 1) := by decide +kernel
theorem d_So_actOn_34 : decode b_So_actOn 34 = .ok (.getfield 9, 3) := by decide +kernel
theorem d_So_actOn_37 : decode b_So_actOn 37 = .ok (.aload_n 0, 1) := by decide +kernel
theorem d_So_actOn_38 : decode b_So_actOn 38 = .ok (.getfield 15, 3) := by decide +kernel
theorem d_So_actOn_41 : decode b_So_actOn 41 = .ok (.iconst 1, 1) := by decide +kernel
theorem d_So_actOn_42 : decode b_So_actOn 42 = .ok (.invokevirtual 34, 3) := by decide +kernel
theorem d_So_actOn_45 : decode b_So_actOn 45 = .ok (.aload_n 0, 1) := by decide +kernel
theorem d_So_actOn_46 : decode b_So_actOn 46 = .ok (.aload_n 0, 1) := by decide +kernel
theorem d_So_actOn_47 : decode b_So_actOn 47 = .ok (.getfield 25, 3) := by decide +kernel
theorem d_So_actOn_50 : decode b_So_actOn 50 = .ok (.iconst 1, 1) := by decide +kernel
theorem d_So_actOn_51 : decode b_So_actOn 51 = .ok (.iadd, 1) := by decide +kernel
theorem d_So_actOn_52 : decode b_So_actOn 52 = .ok (.aload_n 0, 1) := by decide +kernel
theorem d_So_actOn_53 : decode b_So_actOn 53 = .ok (.getfield 22, 3) := by decide +kernel
theorem d_So_actOn_56 : decode b_So_actOn 56 = .ok (.if_icmp .ge 12, 3) := by decide +kernel
theorem d_So_actOn_59 : decode b_So_actOn 59 = .ok (.aload_n 0, 1) := by decide +kernel
theorem d_So_actOn_60 : decode b_So_actOn 60 = .ok (.getfield 25, 3) := by decide +kernel
theorem d_So_actOn_63 : decode b_So_actOn 63 = .ok (.iconst 1, 1) := by decide +kernel
theorem d_So_actOn_64 : decode b_So_actOn 64 = .ok (.iadd, 1) := by decide +kernel
theorem d_So_actOn_65 : decode b_So_actOn 65 = .ok (.goto 4, 3) := by decide +kernel
theorem d_So_actOn_68 : decode b_So_actOn 68 = .ok (.iconst 0, 1) := by decide +kernel
theorem d_So_actOn_69 : decode b_So_actOn 69 = .ok (.putfield 25, 3) := by decide +kernel
theorem d_So_actOn_72 : decode b_So_actOn 72 = .ok (.return_, 1) := by decide +kernel
abbrev b_Tx_init : ByteArray := prog_7_method_1_code
theorem d_Tx_init_0 : decode b_Tx_init 0 = .ok (.aload_n 0, 1) := by decide +kernel
theorem d_Tx_init_1 : decode b_Tx_init 1 = .ok (.invokespecial 3, 3) := by decide +kernel
theorem d_Tx_init_4 : decode b_Tx_init 4 = .ok (.aload_n 0, 1) := by decide +kernel
theorem d_Tx_init_5 : decode b_Tx_init 5 = .ok (.bipush 60, 2) := by decide +kernel
theorem d_Tx_init_7 : decode b_Tx_init 7 = .ok (.newarray .char, 2) := by decide +kernel
theorem d_Tx_init_9 : decode b_Tx_init 9 = .ok (.putfield 9, 3) := by decide +kernel
theorem d_Tx_init_12 : decode b_Tx_init 12 = .ok (.aload_n 0, 1) := by decide +kernel
theorem d_Tx_init_13 : decode b_Tx_init 13 = .ok (.iconst 0, 1) := by decide +kernel
theorem d_Tx_init_14 : decode b_Tx_init 14 = .ok (.putfield 15, 3) := by decide +kernel
theorem d_Tx_init_17 : decode b_Tx_init 17 = .ok (.return_, 1) := by decide +kernel
abbrev b_Tx_add : ByteArray := prog_7_method_2_code
theorem d_Tx_add_0 : decode b_Tx_add 0 = .ok (.iload_n 1, 1) := by decide +kernel
theorem d_Tx_add_1 : decode b_Tx_add 1 = .ok (.bipush 33, 2) := by decide +kernel
theorem d_Tx_add_3 : decode b_Tx_add 3 = .ok (.if_icmp .lt 18, 3) := by decide +kernel
theorem d_Tx_add_6 : decode b_Tx_add 6 = .ok (.iload_n 1, 1) := by decide +kernel
theorem d_Tx_add_7 : decode b_Tx_add 7 = .ok (.bipush 126, 2) := by decide +kernel
theorem d_Tx_add_9 : decode b_Tx_add 9 = .ok (.if_icmp .gt 12, 3) := by decide +kernel
theorem d_Tx_add_12 : decode b_Tx_add 12 = .ok (.aload_n 0, 1) := by decide +kernel
theorem d_Tx_add_13 : decode b_Tx_add 13 = .ok (.getfield 15, 3) := by decide +kernel
theorem d_Tx_add_16 : decode b_Tx_add 16 = .ok (.bipush 60, 2) := by decide +kernel
theorem d_Tx_add_18 : decode b_Tx_add 18 = .ok (.if_icmp .lt 5, 3) := by decide +kernel
theorem d_Tx_add_21 : decode b_Tx_add 21 = .ok (.iconst 0, 1) := by decide +kernel
theorem d_Tx_add_22 : decode b_Tx_add 22 = .ok (.ireturn, 1) := by decide +kernel
theorem d_Tx_add_23 : decode b_Tx_add 23 = .ok (.aload_n 0, 1) := by decide +kernel
theorem d_Tx_add_24 : decode b_Tx_add 24 = .ok (.getfield 9, 3) := by decide +kernel
theorem d_Tx_add_27 : decode b_Tx_add 27 = .ok (.aload_n 0, 1) := by decide +kernel
theorem d_Tx_add_28 : decode b_Tx_add 28 = .ok (.getfield 15, 3) := by decide +kernel
theorem d_Tx_add_31 : decode b_Tx_add 31 = .ok (.iload_n 1, 1) := by decide +kernel
theorem d_Tx_add_32 : decode b_Tx_add 32 = .ok (.castore, 1) := by decide +kernel
theorem d_Tx_add_33 : decode b_Tx_add 33 = .ok (.aload_n 0, 1) := by decide +kernel
theorem d_Tx_add_34 : decode b_Tx_add 34 = .ok (.dup, 1) := by decide +kernel
theorem d_Tx_add_35 : decode b_Tx_add 35 = .ok (.getfield 15, 3) := by decide +kernel
theorem d_Tx_add_38 : decode b_Tx_add 38 = .ok (.iconst 1, 1) := by decide +kernel
theorem d_Tx_add_39 : decode b_Tx_add 39 = .ok (.iadd, 1) := by decide +kernel
theorem d_Tx_add_40 : decode b_Tx_add 40 = .ok (.putfield 15, 3) := by decide +kernel
theorem d_Tx_add_43 : decode b_Tx_add 43 = .ok (.iconst 1, 1) := by decide +kernel
theorem d_Tx_add_44 : decode b_Tx_add 44 = .ok (.ireturn, 1) := by decide +kernel
abbrev b_Tx_clear : ByteArray := prog_7_method_3_code
theorem d_Tx_clear_0 : decode b_Tx_clear 0 = .ok (.aload_n 0, 1) := by decide +kernel
theorem d_Tx_clear_1 : decode b_Tx_clear 1 = .ok (.iconst 0, 1) := by decide +kernel
theorem d_Tx_clear_2 : decode b_Tx_clear 2 = .ok (.putfield 15, 3) := by decide +kernel
theorem d_Tx_clear_5 : decode b_Tx_clear 5 = .ok (.return_, 1) := by decide +kernel
abbrev b_Tx_takeFrom : ByteArray := prog_7_method_4_code
theorem d_Tx_takeFrom_0 : decode b_Tx_takeFrom 0 = .ok (.aload_n 1, 1) := by decide +kernel
theorem d_Tx_takeFrom_1 : decode b_Tx_takeFrom 1 = .ok (.getfield 9, 3) := by decide +kernel
theorem d_Tx_takeFrom_4 : decode b_Tx_takeFrom 4 = .ok (.iconst 0, 1) := by decide +kernel
theorem d_Tx_takeFrom_5 : decode b_Tx_takeFrom 5 = .ok (.aload_n 0, 1) := by decide +kernel
theorem d_Tx_takeFrom_6 : decode b_Tx_takeFrom 6 = .ok (.getfield 9, 3) := by decide +kernel
theorem d_Tx_takeFrom_9 : decode b_Tx_takeFrom 9 = .ok (.iconst 0, 1) := by decide +kernel
theorem d_Tx_takeFrom_10 : decode b_Tx_takeFrom 10 = .ok (.bipush 60, 2) := by decide +kernel
theorem d_Tx_takeFrom_12 : decode b_Tx_takeFrom 12 = .ok (.invokestatic 19, 3) := by decide +kernel
theorem d_Tx_takeFrom_15 : decode b_Tx_takeFrom 15 = .ok (.aload_n 0, 1) := by decide +kernel
theorem d_Tx_takeFrom_16 : decode b_Tx_takeFrom 16 = .ok (.aload_n 1, 1) := by decide +kernel
theorem d_Tx_takeFrom_17 : decode b_Tx_takeFrom 17 = .ok (.getfield 15, 3) := by decide +kernel
theorem d_Tx_takeFrom_20 : decode b_Tx_takeFrom 20 = .ok (.putfield 15, 3) := by decide +kernel
theorem d_Tx_takeFrom_23 : decode b_Tx_takeFrom 23 = .ok (.return_, 1) := by decide +kernel
abbrev b_Tx_signAt : ByteArray := prog_7_method_5_code
theorem d_Tx_signAt_0 : decode b_Tx_signAt 0 = .ok (.iload_n 1, 1) := by decide +kernel
theorem d_Tx_signAt_1 : decode b_Tx_signAt 1 = .ok (.ifCond .lt 20, 3) := by decide +kernel
theorem d_Tx_signAt_4 : decode b_Tx_signAt 4 = .ok (.iload_n 1, 1) := by decide +kernel
theorem d_Tx_signAt_5 : decode b_Tx_signAt 5 = .ok (.aload_n 0, 1) := by decide +kernel
theorem d_Tx_signAt_6 : decode b_Tx_signAt 6 = .ok (.getfield 15, 3) := by decide +kernel
theorem d_Tx_signAt_9 : decode b_Tx_signAt 9 = .ok (.if_icmp .ge 12, 3) := by decide +kernel
theorem d_Tx_signAt_12 : decode b_Tx_signAt 12 = .ok (.aload_n 0, 1) := by decide +kernel
theorem d_Tx_signAt_13 : decode b_Tx_signAt 13 = .ok (.getfield 9, 3) := by decide +kernel
theorem d_Tx_signAt_16 : decode b_Tx_signAt 16 = .ok (.iload_n 1, 1) := by decide +kernel
theorem d_Tx_signAt_17 : decode b_Tx_signAt 17 = .ok (.caload, 1) := by decide +kernel
theorem d_Tx_signAt_18 : decode b_Tx_signAt 18 = .ok (.goto 4, 3) := by decide +kernel
theorem d_Tx_signAt_21 : decode b_Tx_signAt 21 = .ok (.iconst 0, 1) := by decide +kernel
theorem d_Tx_signAt_22 : decode b_Tx_signAt 22 = .ok (.ireturn, 1) := by decide +kernel
abbrev b_Tx_digitsAt : ByteArray := prog_7_method_6_code
theorem d_Tx_digitsAt_0 : decode b_Tx_digitsAt 0 = .ok (.aload_n 0, 1) := by decide +kernel
theorem d_Tx_digitsAt_1 : decode b_Tx_digitsAt 1 = .ok (.iload_n 1, 1) := by decide +kernel
theorem d_Tx_digitsAt_2 : decode b_Tx_digitsAt 2 = .ok (.invokevirtual 25, 3) := by decide +kernel
theorem d_Tx_digitsAt_5 : decode b_Tx_digitsAt 5 = .ok (.invokestatic 29, 3) := by decide +kernel
theorem d_Tx_digitsAt_8 : decode b_Tx_digitsAt 8 = .ok (.ifCond .ne 5, 3) := by decide +kernel
theorem d_Tx_digitsAt_11 : decode b_Tx_digitsAt 11 = .ok (.iconst 0, 1) := by decide +kernel
theorem d_Tx_digitsAt_12 : decode b_Tx_digitsAt 12 = .ok (.ireturn, 1) := by decide +kernel
theorem d_Tx_digitsAt_13 : decode b_Tx_digitsAt 13 = .ok (.aload_n 0, 1) := by decide +kernel
theorem d_Tx_digitsAt_14 : decode b_Tx_digitsAt 14 = .ok (.iload_n 1, 1) := by decide +kernel
theorem d_Tx_digitsAt_15 : decode b_Tx_digitsAt 15 = .ok (.iconst 1, 1) := by decide +kernel
theorem d_Tx_digitsAt_16 : decode b_Tx_digitsAt 16 = .ok (.iadd, 1) := by decide +kernel
theorem d_Tx_digitsAt_17 : decode b_Tx_digitsAt 17 = .ok (.invokevirtual 25, 3) := by decide +kernel
theorem d_Tx_digitsAt_20 : decode b_Tx_digitsAt 20 = .ok (.invokestatic 29, 3) := by decide +kernel
theorem d_Tx_digitsAt_23 : decode b_Tx_digitsAt 23 = .ok (.ifCond .eq 7, 3) := by decide +kernel
theorem d_Tx_digitsAt_26 : decode b_Tx_digitsAt 26 = .ok (.iconst 2, 1) := by decide +kernel
theorem d_Tx_digitsAt_27 : decode b_Tx_digitsAt 27 = .ok (.goto 4, 3) := by decide +kernel
theorem d_Tx_digitsAt_30 : decode b_Tx_digitsAt 30 = .ok (.iconst 1, 1) := by decide +kernel
theorem d_Tx_digitsAt_31 : decode b_Tx_digitsAt 31 = .ok (.ireturn, 1) := by decide +kernel
abbrev b_Tx_timesAt : ByteArray := prog_7_method_7_code
theorem d_Tx_timesAt_0 : decode b_Tx_timesAt 0 = .ok (.aload_n 0, 1) := by decide +kernel
theorem d_Tx_timesAt_1 : decode b_Tx_timesAt 1 = .ok (.iload_n 1, 1) := by decide +kernel
theorem d_Tx_timesAt_2 : decode b_Tx_timesAt 2 = .ok (.invokevirtual 33, 3) := by decide +kernel
theorem d_Tx_timesAt_5 : decode b_Tx_timesAt 5 = .ok (.lookupswitch 59 #[(1, 27), (2, 36)], 27) := by decide +kernel
theorem d_Tx_timesAt_32 : decode b_Tx_timesAt 32 = .ok (.aload_n 0, 1) := by decide +kernel
theorem d_Tx_timesAt_33 : decode b_Tx_timesAt 33 = .ok (.iload_n 1, 1) := by decide +kernel
theorem d_Tx_timesAt_34 : decode b_Tx_timesAt 34 = .ok (.invokevirtual 25, 3) := by decide +kernel
theorem d_Tx_timesAt_37 : decode b_Tx_timesAt 37 = .ok (.bipush 48, 2) := by decide +kernel
theorem d_Tx_timesAt_39 : decode b_Tx_timesAt 39 = .ok (.isub, 1) := by decide +kernel
theorem d_Tx_timesAt_40 : decode b_Tx_timesAt 40 = .ok (.ireturn, 1) := by decide +kernel
theorem d_Tx_timesAt_41 : decode b_Tx_timesAt 41 = .ok (.aload_n 0, 1) := by decide +kernel
theorem d_Tx_timesAt_42 : decode b_Tx_timesAt 42 = .ok (.iload_n 1, 1) := by decide +kernel
theorem d_Tx_timesAt_43 : decode b_Tx_timesAt 43 = .ok (.invokevirtual 25, 3) := by decide +kernel
theorem d_Tx_timesAt_46 : decode b_Tx_timesAt 46 = .ok (.bipush 48, 2) := by decide +kernel
theorem d_Tx_timesAt_48 : decode b_Tx_timesAt 48 = .ok (.isub, 1) := by decide +kernel
theorem d_Tx_timesAt_49 : decode b_Tx_timesAt 49 = .ok (.bipush 10, 2) := by decide +kernel
theorem d_Tx_timesAt_51 : decode b_Tx_timesAt 51 = .ok (.imul, 1) := by decide +kernel
theorem d_Tx_timesAt_52 : decode b_Tx_timesAt 52 = .ok (.aload_n 0, 1) := by decide +kernel
theorem d_Tx_timesAt_53 : decode b_Tx_timesAt 53 = .ok (.iload_n 1, 1) := by decide +kernel
theorem d_Tx_timesAt_54 : decode b_Tx_timesAt 54 = .ok (.iconst 1, 1) := by decide +kernel
theorem d_Tx_timesAt_55 : decode b_Tx_timesAt 55 = .ok (.iadd, 1) := by decide +kernel
theorem d_Tx_timesAt_56 : decode b_Tx_timesAt 56 = .ok (.invokevirtual 25, 3) := by decide +kernel
theorem d_Tx_timesAt_59 : decode b_Tx_timesAt 59 = .ok (.iadd, 1) := by decide +kernel
theorem d_Tx_timesAt_60 : decode b_Tx_timesAt 60 = .ok (.bipush 48, 2) := by decide +kernel
theorem d_Tx_timesAt_62 : decode b_Tx_timesAt 62 = .ok (.isub, 1) := by decide +kernel
theorem d_Tx_timesAt_63 : decode b_Tx_timesAt 63 = .ok (.ireturn, 1) := by decide +kernel
theorem d_Tx_timesAt_64 : decode b_Tx_timesAt 64 = .ok (.iconst 1, 1) := by decide +kernel
theorem d_Tx_timesAt_65 : decode b_Tx_timesAt 65 = .ok (.ireturn, 1) := by decide +kernel
abbrev b_Tx_isDigit : ByteArray := prog_7_method_8_code
theorem d_Tx_isDigit_0 : decode b_Tx_isDigit 0 = .ok (.iload_n 0, 1) := by decide +kernel
theorem d_Tx_isDigit_1 : decode b_Tx_isDigit 1 = .ok (.bipush 48, 2) := by decide +kernel
theorem d_Tx_isDigit_3 : decode b_Tx_isDigit 3 = .ok (.if_icmp .lt 13, 3) := by decide +kernel
theorem d_Tx_isDigit_6 : decode b_Tx_isDigit 6 = .ok (.iload_n 0, 1) := by decide +kernel
theorem d_Tx_isDigit_7 : decode b_Tx_isDigit 7 = .ok (.bipush 57, 2) := by decide +kernel
theorem d_Tx_isDigit_9 : decode b_Tx_isDigit 9 = .ok (.if_icmp .gt 7, 3) := by decide +kernel
theorem d_Tx_isDigit_12 : decode b_Tx_isDigit 12 = .ok (.iconst 1, 1) := by decide +kernel
theorem d_Tx_isDigit_13 : decode b_Tx_isDigit 13 = .ok (.goto 4, 3) := by decide +kernel
theorem d_Tx_isDigit_16 : decode b_Tx_isDigit 16 = .ok (.iconst 0, 1) := by decide +kernel
theorem d_Tx_isDigit_17 : decode b_Tx_isDigit 17 = .ok (.ireturn, 1) := by decide +kernel
abbrev b_Tx_isOrders : ByteArray := prog_7_method_9_code
theorem d_Tx_isOrders_0 : decode b_Tx_isOrders 0 = .ok (.aload_n 0, 1) := by decide +kernel
theorem d_Tx_isOrders_1 : decode b_Tx_isOrders 1 = .ok (.iconst 0, 1) := by decide +kernel
theorem d_Tx_isOrders_2 : decode b_Tx_isOrders 2 = .ok (.iconst 0, 1) := by decide +kernel
theorem d_Tx_isOrders_3 : decode b_Tx_isOrders 3 = .ok (.iload_n 1, 1) := by decide +kernel
theorem d_Tx_isOrders_4 : decode b_Tx_isOrders 4 = .ok (.invokevirtual 37, 3) := by decide +kernel
theorem d_Tx_isOrders_7 : decode b_Tx_isOrders 7 = .ok (.aload_n 0, 1) := by decide +kernel
theorem d_Tx_isOrders_8 : decode b_Tx_isOrders 8 = .ok (.getfield 15, 3) := by decide +kernel
theorem d_Tx_isOrders_11 : decode b_Tx_isOrders 11 = .ok (.if_icmp .ne 7, 3) := by decide +kernel
theorem d_Tx_isOrders_14 : decode b_Tx_isOrders 14 = .ok (.iconst 1, 1) := by decide +kernel
theorem d_Tx_isOrders_15 : decode b_Tx_isOrders 15 = .ok (.goto 4, 3) := by decide +kernel
theorem d_Tx_isOrders_18 : decode b_Tx_isOrders 18 = .ok (.iconst 0, 1) := by decide +kernel
theorem d_Tx_isOrders_19 : decode b_Tx_isOrders 19 = .ok (.ireturn, 1) := by decide +kernel
abbrev b_Tx_behindOrder : ByteArray := prog_7_method_10_code
theorem d_Tx_behindOrder_0 : decode b_Tx_behindOrder 0 = .ok (.aload_n 0, 1) := by decide +kernel
theorem d_Tx_behindOrder_1 : decode b_Tx_behindOrder 1 = .ok (.iload_n 1, 1) := by decide +kernel
theorem d_Tx_behindOrder_2 : decode b_Tx_behindOrder 2 = .ok (.iconst 0, 1) := by decide +kernel
theorem d_Tx_behindOrder_3 : decode b_Tx_behindOrder 3 = .ok (.iconst 4, 1) := by decide +kernel
theorem d_Tx_behindOrder_4 : decode b_Tx_behindOrder 4 = .ok (.invokevirtual 41, 3) := by decide +kernel
theorem d_Tx_behindOrder_7 : decode b_Tx_behindOrder 7 = .ok (.ireturn, 1) := by decide +kernel
abbrev b_Tx_heldMacros : ByteArray := prog_7_method_11_code
theorem d_Tx_heldMacros_0 : decode b_Tx_heldMacros 0 = .ok (.iconst 0, 1) := by decide +kernel
theorem d_Tx_heldMacros_1 : decode b_Tx_heldMacros 1 = .ok (.istore_n 1, 1) := by decide +kernel
theorem d_Tx_heldMacros_2 : decode b_Tx_heldMacros 2 = .ok (.iconst 0, 1) := by decide +kernel
theorem d_Tx_heldMacros_3 : decode b_Tx_heldMacros 3 = .ok (.istore_n 2, 1) := by decide +kernel
theorem d_Tx_heldMacros_4 : decode b_Tx_heldMacros 4 = .ok (.iload_n 2, 1) := by decide +kernel
theorem d_Tx_heldMacros_5 : decode b_Tx_heldMacros 5 = .ok (.aload_n 0, 1) := by decide +kernel
theorem d_Tx_heldMacros_6 : decode b_Tx_heldMacros 6 = .ok (.getfield 15, 3) := by decide +kernel
theorem d_Tx_heldMacros_9 : decode b_Tx_heldMacros 9 = .ok (.if_icmp .ge 45, 3) := by decide +kernel
theorem d_Tx_heldMacros_12 : decode b_Tx_heldMacros 12 = .ok (.aload_n 0, 1) := by decide +kernel
theorem d_Tx_heldMacros_13 : decode b_Tx_heldMacros 13 = .ok (.iload_n 2, 1) := by decide +kernel
theorem d_Tx_heldMacros_14 : decode b_Tx_heldMacros 14 = .ok (.iconst 1, 1) := by decide +kernel
theorem d_Tx_heldMacros_15 : decode b_Tx_heldMacros 15 = .ok (.iadd, 1) := by decide +kernel
theorem d_Tx_heldMacros_16 : decode b_Tx_heldMacros 16 = .ok (.invokevirtual 25, 3) := by decide +kernel
theorem d_Tx_heldMacros_19 : decode b_Tx_heldMacros 19 = .ok (.bipush 97, 2) := by decide +kernel
theorem d_Tx_heldMacros_21 : decode b_Tx_heldMacros 21 = .ok (.isub, 1) := by decide +kernel
theorem d_Tx_heldMacros_22 : decode b_Tx_heldMacros 22 = .ok (.istore_n 3, 1) := by decide +kernel
theorem d_Tx_heldMacros_23 : decode b_Tx_heldMacros 23 = .ok (.aload_n 0, 1) := by decide +kernel
theorem d_Tx_heldMacros_24 : decode b_Tx_heldMacros 24 = .ok (.iload_n 2, 1) := by decide +kernel
theorem d_Tx_heldMacros_25 : decode b_Tx_heldMacros 25 = .ok (.invokevirtual 25, 3) := by decide +kernel
theorem d_Tx_heldMacros_28 : decode b_Tx_heldMacros 28 = .ok (.bipush 64, 2) := by decide +kernel
theorem d_Tx_heldMacros_30 : decode b_Tx_heldMacros 30 = .ok (.if_icmp .ne 18, 3) := by decide +kernel
theorem d_Tx_heldMacros_33 : decode b_Tx_heldMacros 33 = .ok (.iload_n 3, 1) := by decide +kernel
theorem d_Tx_heldMacros_34 : decode b_Tx_heldMacros 34 = .ok (.ifCond .lt 14, 3) := by decide +kernel
theorem d_Tx_heldMacros_37 : decode b_Tx_heldMacros 37 = .ok (.iload_n 3, 1) := by decide +kernel
theorem d_Tx_heldMacros_38 : decode b_Tx_heldMacros 38 = .ok (.iconst 4, 1) := by decide +kernel
theorem d_Tx_heldMacros_39 : decode b_Tx_heldMacros 39 = .ok (.if_icmp .ge 9, 3) := by decide +kernel
theorem d_Tx_heldMacros_42 : decode b_Tx_heldMacros 42 = .ok (.iload_n 1, 1) := by decide +kernel
theorem d_Tx_heldMacros_43 : decode b_Tx_heldMacros 43 = .ok (.iconst 1, 1) := by decide +kernel
theorem d_Tx_heldMacros_44 : decode b_Tx_heldMacros 44 = .ok (.iload_n 3, 1) := by decide +kernel
theorem d_Tx_heldMacros_45 : decode b_Tx_heldMacros 45 = .ok (.ishl, 1) := by decide +kernel
theorem d_Tx_heldMacros_46 : decode b_Tx_heldMacros 46 = .ok (.ior, 1) := by decide +kernel
theorem d_Tx_heldMacros_47 : decode b_Tx_heldMacros 47 = .ok (.istore_n 1, 1) := by decide +kernel
theorem d_Tx_heldMacros_48 : decode b_Tx_heldMacros 48 = .ok (.iinc 2 1, 3) := by decide +kernel
theorem d_Tx_heldMacros_51 : decode b_Tx_heldMacros 51 = .ok (.goto (-47), 3) := by decide +kernel
theorem d_Tx_heldMacros_54 : decode b_Tx_heldMacros 54 = .ok (.iload_n 1, 1) := by decide +kernel
theorem d_Tx_heldMacros_55 : decode b_Tx_heldMacros 55 = .ok (.ireturn, 1) := by decide +kernel
abbrev b_Tx_endOfOrders : ByteArray := prog_7_method_12_code
theorem d_Tx_endOfOrders_0 : decode b_Tx_endOfOrders 0 = .ok (.iload_n 1, 1) := by decide +kernel
theorem d_Tx_endOfOrders_1 : decode b_Tx_endOfOrders 1 = .ok (.istore 4, 2) := by decide +kernel
theorem d_Tx_endOfOrders_3 : decode b_Tx_endOfOrders 3 = .ok (.iconst 0, 1) := by decide +kernel
theorem d_Tx_endOfOrders_4 : decode b_Tx_endOfOrders 4 = .ok (.istore 5, 2) := by decide +kernel
theorem d_Tx_endOfOrders_6 : decode b_Tx_endOfOrders 6 = .ok (.iload 5, 2) := by decide +kernel
theorem d_Tx_endOfOrders_8 : decode b_Tx_endOfOrders 8 = .ok (.bipush 60, 2) := by decide +kernel
theorem d_Tx_endOfOrders_10 : decode b_Tx_endOfOrders 10 = .ok (.if_icmp .ge 52, 3) := by decide +kernel
theorem d_Tx_endOfOrders_13 : decode b_Tx_endOfOrders 13 = .ok (.iload 4, 2) := by decide +kernel
theorem d_Tx_endOfOrders_15 : decode b_Tx_endOfOrders 15 = .ok (.ifCond .lt 47, 3) := by decide +kernel
theorem d_Tx_endOfOrders_18 : decode b_Tx_endOfOrders 18 = .ok (.iload 4, 2) := by decide +kernel
theorem d_Tx_endOfOrders_20 : decode b_Tx_endOfOrders 20 = .ok (.aload_n 0, 1) := by decide +kernel
theorem d_Tx_endOfOrders_21 : decode b_Tx_endOfOrders 21 = .ok (.getfield 15, 3) := by decide +kernel
theorem d_Tx_endOfOrders_24 : decode b_Tx_endOfOrders 24 = .ok (.if_icmp .ge 38, 3) := by decide +kernel
theorem d_Tx_endOfOrders_27 : decode b_Tx_endOfOrders 27 = .ok (.aload_n 0, 1) := by decide +kernel
theorem d_Tx_endOfOrders_28 : decode b_Tx_endOfOrders 28 = .ok (.iload 4, 2) := by decide +kernel
theorem d_Tx_endOfOrders_30 : decode b_Tx_endOfOrders 30 = .ok (.invokevirtual 25, 3) := by decide +kernel
theorem d_Tx_endOfOrders_33 : decode b_Tx_endOfOrders 33 = .ok (.invokestatic 44, 3) := by decide +kernel
theorem d_Tx_endOfOrders_36 : decode b_Tx_endOfOrders 36 = .ok (.ifCond .ne 26, 3) := by decide +kernel
theorem d_Tx_endOfOrders_39 : decode b_Tx_endOfOrders 39 = .ok (.aload_n 0, 1) := by decide +kernel
theorem d_Tx_endOfOrders_40 : decode b_Tx_endOfOrders 40 = .ok (.iload 4, 2) := by decide +kernel
theorem d_Tx_endOfOrders_42 : decode b_Tx_endOfOrders 42 = .ok (.aload_n 0, 1) := by decide +kernel
theorem d_Tx_endOfOrders_43 : decode b_Tx_endOfOrders 43 = .ok (.iload 4, 2) := by decide +kernel
theorem d_Tx_endOfOrders_45 : decode b_Tx_endOfOrders 45 = .ok (.invokevirtual 33, 3) := by decide +kernel
theorem d_Tx_endOfOrders_48 : decode b_Tx_endOfOrders 48 = .ok (.iadd, 1) := by decide +kernel
theorem d_Tx_endOfOrders_49 : decode b_Tx_endOfOrders 49 = .ok (.iload_n 2, 1) := by decide +kernel
theorem d_Tx_endOfOrders_50 : decode b_Tx_endOfOrders 50 = .ok (.iload_n 3, 1) := by decide +kernel
theorem d_Tx_endOfOrders_51 : decode b_Tx_endOfOrders 51 = .ok (.invokevirtual 41, 3) := by decide +kernel
theorem d_Tx_endOfOrders_54 : decode b_Tx_endOfOrders 54 = .ok (.istore 4, 2) := by decide +kernel
theorem d_Tx_endOfOrders_56 : decode b_Tx_endOfOrders 56 = .ok (.iinc 5 1, 3) := by decide +kernel
theorem d_Tx_endOfOrders_59 : decode b_Tx_endOfOrders 59 = .ok (.goto (-53), 3) := by decide +kernel
theorem d_Tx_endOfOrders_62 : decode b_Tx_endOfOrders 62 = .ok (.iload 4, 2) := by decide +kernel
theorem d_Tx_endOfOrders_64 : decode b_Tx_endOfOrders 64 = .ok (.ireturn, 1) := by decide +kernel
abbrev b_Tx_endOfOrder : ByteArray := prog_7_method_13_code
theorem d_Tx_endOfOrder_0 : decode b_Tx_endOfOrder 0 = .ok (.aload_n 0, 1) := by decide +kernel
theorem d_Tx_endOfOrder_1 : decode b_Tx_endOfOrder 1 = .ok (.iload_n 1, 1) := by decide +kernel
theorem d_Tx_endOfOrder_2 : decode b_Tx_endOfOrder 2 = .ok (.invokevirtual 25, 3) := by decide +kernel
theorem d_Tx_endOfOrder_5 : decode b_Tx_endOfOrder 5 = .ok (.istore 4, 2) := by decide +kernel
theorem d_Tx_endOfOrder_7 : decode b_Tx_endOfOrder 7 = .ok (.iload 4, 2) := by decide +kernel
theorem d_Tx_endOfOrder_9 : decode b_Tx_endOfOrder 9 = .ok (.bipush 40, 2) := by decide +kernel
theorem d_Tx_endOfOrder_11 : decode b_Tx_endOfOrder 11 = .ok (.if_icmp .ne 17, 3) := by decide +kernel
theorem d_Tx_endOfOrder_14 : decode b_Tx_endOfOrder 14 = .ok (.aload_n 0, 1) := by decide +kernel
theorem d_Tx_endOfOrder_15 : decode b_Tx_endOfOrder 15 = .ok (.iload_n 1, 1) := by decide +kernel
theorem d_Tx_endOfOrder_16 : decode b_Tx_endOfOrder 16 = .ok (.iconst 1, 1) := by decide +kernel
theorem d_Tx_endOfOrder_17 : decode b_Tx_endOfOrder 17 = .ok (.iadd, 1) := by decide +kernel
theorem d_Tx_endOfOrder_18 : decode b_Tx_endOfOrder 18 = .ok (.bipush 41, 2) := by decide +kernel
theorem d_Tx_endOfOrder_20 : decode b_Tx_endOfOrder 20 = .ok (.iload_n 2, 1) := by decide +kernel
theorem d_Tx_endOfOrder_21 : decode b_Tx_endOfOrder 21 = .ok (.iconst 1, 1) := by decide +kernel
theorem d_Tx_endOfOrder_22 : decode b_Tx_endOfOrder 22 = .ok (.iadd, 1) := by decide +kernel
theorem d_Tx_endOfOrder_23 : decode b_Tx_endOfOrder 23 = .ok (.iload_n 3, 1) := by decide +kernel
theorem d_Tx_endOfOrder_24 : decode b_Tx_endOfOrder 24 = .ok (.invokevirtual 47, 3) := by decide +kernel
theorem d_Tx_endOfOrder_27 : decode b_Tx_endOfOrder 27 = .ok (.ireturn, 1) := by decide +kernel
theorem d_Tx_endOfOrder_28 : decode b_Tx_endOfOrder 28 = .ok (.iload 4, 2) := by decide +kernel
theorem d_Tx_endOfOrder_30 : decode b_Tx_endOfOrder 30 = .ok (.bipush 91, 2) := by decide +kernel
theorem d_Tx_endOfOrder_32 : decode b_Tx_endOfOrder 32 = .ok (.if_icmp .ne 17, 3) := by decide +kernel
theorem d_Tx_endOfOrder_35 : decode b_Tx_endOfOrder 35 = .ok (.aload_n 0, 1) := by decide +kernel
theorem d_Tx_endOfOrder_36 : decode b_Tx_endOfOrder 36 = .ok (.iload_n 1, 1) := by decide +kernel
theorem d_Tx_endOfOrder_37 : decode b_Tx_endOfOrder 37 = .ok (.iconst 1, 1) := by decide +kernel
theorem d_Tx_endOfOrder_38 : decode b_Tx_endOfOrder 38 = .ok (.iadd, 1) := by decide +kernel
theorem d_Tx_endOfOrder_39 : decode b_Tx_endOfOrder 39 = .ok (.bipush 93, 2) := by decide +kernel
theorem d_Tx_endOfOrder_41 : decode b_Tx_endOfOrder 41 = .ok (.iload_n 2, 1) := by decide +kernel
theorem d_Tx_endOfOrder_42 : decode b_Tx_endOfOrder 42 = .ok (.iconst 1, 1) := by decide +kernel
theorem d_Tx_endOfOrder_43 : decode b_Tx_endOfOrder 43 = .ok (.iadd, 1) := by decide +kernel
theorem d_Tx_endOfOrder_44 : decode b_Tx_endOfOrder 44 = .ok (.iload_n 3, 1) := by decide +kernel
theorem d_Tx_endOfOrder_45 : decode b_Tx_endOfOrder 45 = .ok (.invokevirtual 47, 3) := by decide +kernel
theorem d_Tx_endOfOrder_48 : decode b_Tx_endOfOrder 48 = .ok (.ireturn, 1) := by decide +kernel
theorem d_Tx_endOfOrder_49 : decode b_Tx_endOfOrder 49 = .ok (.iload 4, 2) := by decide +kernel
theorem d_Tx_endOfOrder_51 : decode b_Tx_endOfOrder 51 = .ok (.bipush 64, 2) := by decide +kernel
theorem d_Tx_endOfOrder_53 : decode b_Tx_endOfOrder 53 = .ok (.if_icmp .ne 34, 3) := by decide +kernel
theorem d_Tx_endOfOrder_56 : decode b_Tx_endOfOrder 56 = .ok (.aload_n 0, 1) := by decide +kernel
theorem d_Tx_endOfOrder_57 : decode b_Tx_endOfOrder 57 = .ok (.iload_n 1, 1) := by decide +kernel
theorem d_Tx_endOfOrder_58 : decode b_Tx_endOfOrder 58 = .ok (.iconst 1, 1) := by decide +kernel
theorem d_Tx_endOfOrder_59 : decode b_Tx_endOfOrder 59 = .ok (.iadd, 1) := by decide +kernel
theorem d_Tx_endOfOrder_60 : decode b_Tx_endOfOrder 60 = .ok (.invokevirtual 25, 3) := by decide +kernel
theorem d_Tx_endOfOrder_63 : decode b_Tx_endOfOrder 63 = .ok (.bipush 97, 2) := by decide +kernel
theorem d_Tx_endOfOrder_65 : decode b_Tx_endOfOrder 65 = .ok (.isub, 1) := by decide +kernel
theorem d_Tx_endOfOrder_66 : decode b_Tx_endOfOrder 66 = .ok (.istore 5, 2) := by decide +kernel
theorem d_Tx_endOfOrder_68 : decode b_Tx_endOfOrder 68 = .ok (.iload 5, 2) := by decide +kernel
theorem d_Tx_endOfOrder_70 : decode b_Tx_endOfOrder 70 = .ok (.ifCond .lt 15, 3) := by decide +kernel
theorem d_Tx_endOfOrder_73 : decode b_Tx_endOfOrder 73 = .ok (.iload 5, 2) := by decide +kernel
theorem d_Tx_endOfOrder_75 : decode b_Tx_endOfOrder 75 = .ok (.iload_n 3, 1) := by decide +kernel
theorem d_Tx_endOfOrder_76 : decode b_Tx_endOfOrder 76 = .ok (.if_icmp .ge 9, 3) := by decide +kernel
theorem d_Tx_endOfOrder_79 : decode b_Tx_endOfOrder 79 = .ok (.iload_n 1, 1) := by decide +kernel
theorem d_Tx_endOfOrder_80 : decode b_Tx_endOfOrder 80 = .ok (.iconst 2, 1) := by decide +kernel
theorem d_Tx_endOfOrder_81 : decode b_Tx_endOfOrder 81 = .ok (.iadd, 1) := by decide +kernel
theorem d_Tx_endOfOrder_82 : decode b_Tx_endOfOrder 82 = .ok (.goto 4, 3) := by decide +kernel
theorem d_Tx_endOfOrder_85 : decode b_Tx_endOfOrder 85 = .ok (.iconst (-1), 1) := by decide +kernel
theorem d_Tx_endOfOrder_86 : decode b_Tx_endOfOrder 86 = .ok (.ireturn, 1) := by decide +kernel
theorem d_Tx_endOfOrder_87 : decode b_Tx_endOfOrder 87 = .ok (.ldc 51, 2) := by decide +kernel
theorem d_Tx_endOfOrder_89 : decode b_Tx_endOfOrder 89 = .ok (.iload 4, 2) := by decide +kernel
theorem d_Tx_endOfOrder_91 : decode b_Tx_endOfOrder 91 = .ok (.invokevirtual 53, 3) := by decide +kernel
theorem d_Tx_endOfOrder_94 : decode b_Tx_endOfOrder 94 = .ok (.ifCond .lt 9, 3) := by decide +kernel
theorem d_Tx_endOfOrder_97 : decode b_Tx_endOfOrder 97 = .ok (.iload_n 1, 1) := by decide +kernel
theorem d_Tx_endOfOrder_98 : decode b_Tx_endOfOrder 98 = .ok (.iconst 1, 1) := by decide +kernel
theorem d_Tx_endOfOrder_99 : decode b_Tx_endOfOrder 99 = .ok (.iadd, 1) := by decide +kernel
theorem d_Tx_endOfOrder_100 : decode b_Tx_endOfOrder 100 = .ok (.goto 4, 3) := by decide +kernel
theorem d_Tx_endOfOrder_103 : decode b_Tx_endOfOrder 103 = .ok (.iconst (-1), 1) := by decide +kernel
theorem d_Tx_endOfOrder_104 : decode b_Tx_endOfOrder 104 = .ok (.ireturn, 1) := by decide +kernel
abbrev b_Tx_endOfBracket : ByteArray := prog_7_method_14_code
theorem d_Tx_endOfBracket_0 : decode b_Tx_endOfBracket 0 = .ok (.iload_n 3, 1) := by decide +kernel
theorem d_Tx_endOfBracket_1 : decode b_Tx_endOfBracket 1 = .ok (.iconst 3, 1) := by decide +kernel
theorem d_Tx_endOfBracket_2 : decode b_Tx_endOfBracket 2 = .ok (.if_icmp .le 5, 3) := by decide +kernel
theorem d_Tx_endOfBracket_5 : decode b_Tx_endOfBracket 5 = .ok (.iconst (-1), 1) := by decide +kernel
theorem d_Tx_endOfBracket_6 : decode b_Tx_endOfBracket 6 = .ok (.ireturn, 1) := by decide +kernel
theorem d_Tx_endOfBracket_7 : decode b_Tx_endOfBracket 7 = .ok (.aload_n 0, 1) := by decide +kernel
theorem d_Tx_endOfBracket_8 : decode b_Tx_endOfBracket 8 = .ok (.iload_n 1, 1) := by decide +kernel
theorem d_Tx_endOfBracket_9 : decode b_Tx_endOfBracket 9 = .ok (.iload_n 3, 1) := by decide +kernel
theorem d_Tx_endOfBracket_10 : decode b_Tx_endOfBracket 10 = .ok (.iload 4, 2) := by decide +kernel
theorem d_Tx_endOfBracket_12 : decode b_Tx_endOfBracket 12 = .ok (.invokevirtual 37, 3) := by decide +kernel
theorem d_Tx_endOfBracket_15 : decode b_Tx_endOfBracket 15 = .ok (.istore 5, 2) := by decide +kernel
theorem d_Tx_endOfBracket_17 : decode b_Tx_endOfBracket 17 = .ok (.iload 5, 2) := by decide +kernel
theorem d_Tx_endOfBracket_19 : decode b_Tx_endOfBracket 19 = .ok (.ifCond .lt 20, 3) := by decide +kernel
theorem d_Tx_endOfBracket_22 : decode b_Tx_endOfBracket 22 = .ok (.aload_n 0, 1) := by decide +kernel
theorem d_Tx_endOfBracket_23 : decode b_Tx_endOfBracket 23 = .ok (.iload 5, 2) := by decide +kernel
theorem d_Tx_endOfBracket_25 : decode b_Tx_endOfBracket 25 = .ok (.invokevirtual 25, 3) := by decide +kernel
theorem d_Tx_endOfBracket_28 : decode b_Tx_endOfBracket 28 = .ok (.iload_n 2, 1) := by decide +kernel
theorem d_Tx_endOfBracket_29 : decode b_Tx_endOfBracket 29 = .ok (.if_icmp .ne 10, 3) := by decide +kernel
theorem d_Tx_endOfBracket_32 : decode b_Tx_endOfBracket 32 = .ok (.iload 5, 2) := by decide +kernel
theorem d_Tx_endOfBracket_34 : decode b_Tx_endOfBracket 34 = .ok (.iconst 1, 1) := by decide +kernel
theorem d_Tx_endOfBracket_35 : decode b_Tx_endOfBracket 35 = .ok (.iadd, 1) := by decide +kernel
theorem d_Tx_endOfBracket_36 : decode b_Tx_endOfBracket 36 = .ok (.goto 4, 3) := by decide +kernel
theorem d_Tx_endOfBracket_39 : decode b_Tx_endOfBracket 39 = .ok (.iconst (-1), 1) := by decide +kernel
theorem d_Tx_endOfBracket_40 : decode b_Tx_endOfBracket 40 = .ok (.ireturn, 1) := by decide +kernel
abbrev b_Tx_isClosing : ByteArray := prog_7_method_15_code
theorem d_Tx_isClosing_0 : decode b_Tx_isClosing 0 = .ok (.iload_n 0, 1) := by decide +kernel
theorem d_Tx_isClosing_1 : decode b_Tx_isClosing 1 = .ok (.bipush 41, 2) := by decide +kernel
theorem d_Tx_isClosing_3 : decode b_Tx_isClosing 3 = .ok (.if_icmp .eq 9, 3) := by decide +kernel
theorem d_Tx_isClosing_6 : decode b_Tx_isClosing 6 = .ok (.iload_n 0, 1) := by decide +kernel
theorem d_Tx_isClosing_7 : decode b_Tx_isClosing 7 = .ok (.bipush 93, 2) := by decide +kernel
theorem d_Tx_isClosing_9 : decode b_Tx_isClosing 9 = .ok (.if_icmp .ne 7, 3) := by decide +kernel
theorem d_Tx_isClosing_12 : decode b_Tx_isClosing 12 = .ok (.iconst 1, 1) := by decide +kernel
theorem d_Tx_isClosing_13 : decode b_Tx_isClosing 13 = .ok (.goto 4, 3) := by decide +kernel
theorem d_Tx_isClosing_16 : decode b_Tx_isClosing 16 = .ok (.iconst 0, 1) := by decide +kernel
theorem d_Tx_isClosing_17 : decode b_Tx_isClosing 17 = .ok (.ireturn, 1) := by decide +kernel
end
section
abbrev b_WF_init : ByteArray := prog_1_method_1_code
theorem d_WF_init_0 : decode b_WF_init 0 = .ok (.aload_n 0, 1) := by decide +kernel
theorem d_WF_init_1 : decode b_WF_init 1 = .ok (.invokespecial 3, 3) := by decide +kernel
theorem d_WF_init_4 : decode b_WF_init 4 = .ok (.aload_n 0, 1) := by decide +kernel
theorem d_WF_init_5 : decode b_WF_init 5 = .ok (.new 9, 3) := by decide +kernel
theorem d_WF_init_8 : decode b_WF_init 8 = .ok (.dup, 1) := by decide +kernel
theorem d_WF_init_9 : decode b_WF_init 9 = .ok (.invokespecial 11, 3) := by decide +kernel
theorem d_WF_init_12 : decode b_WF_init 12 = .ok (.putfield 12, 3) := by decide +kernel
theorem d_WF_init_15 : decode b_WF_init 15 = .ok (.aload_n 0, 1) := by decide +kernel
theorem d_WF_init_16 : decode b_WF_init 16 = .ok (.new 9, 3) := by decide +kernel
theorem d_WF_init_19 : decode b_WF_init 19 = .ok (.dup, 1) := by decide +kernel
theorem d_WF_init_20 : decode b_WF_init 20 = .ok (.invokespecial 11, 3) := by decide +kernel
theorem d_WF_init_23 : decode b_WF_init 23 = .ok (.putfield 16, 3) := by decide +kernel
theorem d_WF_init_26 : decode b_WF_init 26 = .ok (.aload_n 0, 1) := by decide +kernel
theorem d_WF_init_27 : decode b_WF_init 27 = .ok (.new 19, 3) := by decide +kernel
theorem d_WF_init_30 : decode b_WF_init 30 = .ok (.dup, 1) := by decide +kernel
theorem d_WF_init_31 : decode b_WF_init 31 = .ok (.invokespecial 21, 3) := by decide +kernel
theorem d_WF_init_34 : decode b_WF_init 34 = .ok (.putfield 22, 3) := by decide +kernel
theorem d_WF_init_37 : decode b_WF_init 37 = .ok (.aload_n 0, 1) := by decide +kernel
theorem d_WF_init_38 : decode b_WF_init 38 = .ok (.new 26, 3) := by decide +kernel
theorem d_WF_init_41 : decode b_WF_init 41 = .ok (.dup, 1) := by decide +kernel
theorem d_WF_init_42 : decode b_WF_init 42 = .ok (.invokespecial 28, 3) := by decide +kernel
theorem d_WF_init_45 : decode b_WF_init 45 = .ok (.putfield 29, 3) := by decide +kernel
theorem d_WF_init_48 : decode b_WF_init 48 = .ok (.aload_n 0, 1) := by decide +kernel
theorem d_WF_init_49 : decode b_WF_init 49 = .ok (.iconst 4, 1) := by decide +kernel
theorem d_WF_init_50 : decode b_WF_init 50 = .ok (.anewarray 26, 3) := by decide +kernel
theorem d_WF_init_53 : decode b_WF_init 53 = .ok (.putfield 33, 3) := by decide +kernel
theorem d_WF_init_56 : decode b_WF_init 56 = .ok (.aload_n 0, 1) := by decide +kernel
theorem d_WF_init_57 : decode b_WF_init 57 = .ok (.iconst 4, 1) := by decide +kernel
theorem d_WF_init_58 : decode b_WF_init 58 = .ok (.newarray .boolean, 2) := by decide +kernel
theorem d_WF_init_60 : decode b_WF_init 60 = .ok (.putfield 37, 3) := by decide +kernel
theorem d_WF_init_63 : decode b_WF_init 63 = .ok (.aload_n 0, 1) := by decide +kernel
theorem d_WF_init_64 : decode b_WF_init 64 = .ok (.iconst 4, 1) := by decide +kernel
theorem d_WF_init_65 : decode b_WF_init 65 = .ok (.anewarray 41, 3) := by decide +kernel
theorem d_WF_init_68 : decode b_WF_init 68 = .ok (.putfield 43, 3) := by decide +kernel
theorem d_WF_init_71 : decode b_WF_init 71 = .ok (.aload_n 0, 1) := by decide +kernel
theorem d_WF_init_72 : decode b_WF_init 72 = .ok (.iconst 0, 1) := by decide +kernel
theorem d_WF_init_73 : decode b_WF_init 73 = .ok (.putfield 47, 3) := by decide +kernel
theorem d_WF_init_76 : decode b_WF_init 76 = .ok (.aload_n 0, 1) := by decide +kernel
theorem d_WF_init_77 : decode b_WF_init 77 = .ok (.iconst 4, 1) := by decide +kernel
theorem d_WF_init_78 : decode b_WF_init 78 = .ok (.anewarray 51, 3) := by decide +kernel
theorem d_WF_init_81 : decode b_WF_init 81 = .ok (.putfield 53, 3) := by decide +kernel
theorem d_WF_init_84 : decode b_WF_init 84 = .ok (.aload_n 0, 1) := by decide +kernel
theorem d_WF_init_85 : decode b_WF_init 85 = .ok (.iconst 0, 1) := by decide +kernel
theorem d_WF_init_86 : decode b_WF_init 86 = .ok (.putfield 57, 3) := by decide +kernel
theorem d_WF_init_89 : decode b_WF_init 89 = .ok (.aload_n 0, 1) := by decide +kernel
theorem d_WF_init_90 : decode b_WF_init 90 = .ok (.bipush 16, 2) := by decide +kernel
theorem d_WF_init_92 : decode b_WF_init 92 = .ok (.anewarray 60, 3) := by decide +kernel
theorem d_WF_init_95 : decode b_WF_init 95 = .ok (.putfield 62, 3) := by decide +kernel
theorem d_WF_init_98 : decode b_WF_init 98 = .ok (.aload_n 0, 1) := by decide +kernel
theorem d_WF_init_99 : decode b_WF_init 99 = .ok (.iconst 0, 1) := by decide +kernel
theorem d_WF_init_100 : decode b_WF_init 100 = .ok (.putfield 66, 3) := by decide +kernel
theorem d_WF_init_103 : decode b_WF_init 103 = .ok (.aload_n 0, 1) := by decide +kernel
theorem d_WF_init_104 : decode b_WF_init 104 = .ok (.iconst 0, 1) := by decide +kernel
theorem d_WF_init_105 : decode b_WF_init 105 = .ok (.putfield 69, 3) := by decide +kernel
theorem d_WF_init_108 : decode b_WF_init 108 = .ok (.iconst 0, 1) := by decide +kernel
theorem d_WF_init_109 : decode b_WF_init 109 = .ok (.istore_n 1, 1) := by decide +kernel
theorem d_WF_init_110 : decode b_WF_init 110 = .ok (.iload_n 1, 1) := by decide +kernel
theorem d_WF_init_111 : decode b_WF_init 111 = .ok (.iconst 4, 1) := by decide +kernel
theorem d_WF_init_112 : decode b_WF_init 112 = .ok (.if_icmp .ge 22, 3) := by decide +kernel
theorem d_WF_init_115 : decode b_WF_init 115 = .ok (.aload_n 0, 1) := by decide +kernel
theorem d_WF_init_116 : decode b_WF_init 116 = .ok (.getfield 33, 3) := by decide +kernel
theorem d_WF_init_119 : decode b_WF_init 119 = .ok (.iload_n 1, 1) := by decide +kernel
theorem d_WF_init_120 : decode b_WF_init 120 = .ok (.new 26, 3) := by decide +kernel
theorem d_WF_init_123 : decode b_WF_init 123 = .ok (.dup, 1) := by decide +kernel
theorem d_WF_init_124 : decode b_WF_init 124 = .ok (.invokespecial 28, 3) := by decide +kernel
theorem d_WF_init_127 : decode b_WF_init 127 = .ok (.aastore, 1) := by decide +kernel
theorem d_WF_init_128 : decode b_WF_init 128 = .ok (.iinc 1 1, 3) := by decide +kernel
theorem d_WF_init_131 : decode b_WF_init 131 = .ok (.goto (-21), 3) := by decide +kernel
theorem d_WF_init_134 : decode b_WF_init 134 = .ok (.iconst 0, 1) := by decide +kernel
theorem d_WF_init_135 : decode b_WF_init 135 = .ok (.istore_n 1, 1) := by decide +kernel
theorem d_WF_init_136 : decode b_WF_init 136 = .ok (.iload_n 1, 1) := by decide +kernel
theorem d_WF_init_137 : decode b_WF_init 137 = .ok (.iconst 4, 1) := by decide +kernel
theorem d_WF_init_138 : decode b_WF_init 138 = .ok (.if_icmp .ge 22, 3) := by decide +kernel
theorem d_WF_init_141 : decode b_WF_init 141 = .ok (.aload_n 0, 1) := by decide +kernel
theorem d_WF_init_142 : decode b_WF_init 142 = .ok (.getfield 43, 3) := by decide +kernel
theorem d_WF_init_145 : decode b_WF_init 145 = .ok (.iload_n 1, 1) := by decide +kernel
theorem d_WF_init_146 : decode b_WF_init 146 = .ok (.new 41, 3) := by decide +kernel
theorem d_WF_init_149 : decode b_WF_init 149 = .ok (.dup, 1) := by decide +kernel
theorem d_WF_init_150 : decode b_WF_init 150 = .ok (.invokespecial 72, 3) := by decide +kernel
theorem d_WF_init_153 : decode b_WF_init 153 = .ok (.aastore, 1) := by decide +kernel
theorem d_WF_init_154 : decode b_WF_init 154 = .ok (.iinc 1 1, 3) := by decide +kernel
theorem d_WF_init_157 : decode b_WF_init 157 = .ok (.goto (-21), 3) := by decide +kernel
theorem d_WF_init_160 : decode b_WF_init 160 = .ok (.iconst 0, 1) := by decide +kernel
theorem d_WF_init_161 : decode b_WF_init 161 = .ok (.istore_n 1, 1) := by decide +kernel
theorem d_WF_init_162 : decode b_WF_init 162 = .ok (.iload_n 1, 1) := by decide +kernel
theorem d_WF_init_163 : decode b_WF_init 163 = .ok (.iconst 4, 1) := by decide +kernel
theorem d_WF_init_164 : decode b_WF_init 164 = .ok (.if_icmp .ge 22, 3) := by decide +kernel
theorem d_WF_init_167 : decode b_WF_init 167 = .ok (.aload_n 0, 1) := by decide +kernel
theorem d_WF_init_168 : decode b_WF_init 168 = .ok (.getfield 53, 3) := by decide +kernel
theorem d_WF_init_171 : decode b_WF_init 171 = .ok (.iload_n 1, 1) := by decide +kernel
theorem d_WF_init_172 : decode b_WF_init 172 = .ok (.new 51, 3) := by decide +kernel
theorem d_WF_init_175 : decode b_WF_init 175 = .ok (.dup, 1) := by decide +kernel
theorem d_WF_init_176 : decode b_WF_init 176 = .ok (.invokespecial 73, 3) := by decide +kernel
theorem d_WF_init_179 : decode b_WF_init 179 = .ok (.aastore, 1) := by decide +kernel
theorem d_WF_init_180 : decode b_WF_init 180 = .ok (.iinc 1 1, 3) := by decide +kernel
theorem d_WF_init_183 : decode b_WF_init 183 = .ok (.goto (-21), 3) := by decide +kernel
theorem d_WF_init_186 : decode b_WF_init 186 = .ok (.iconst 0, 1) := by decide +kernel
theorem d_WF_init_187 : decode b_WF_init 187 = .ok (.istore_n 1, 1) := by decide +kernel
theorem d_WF_init_188 : decode b_WF_init 188 = .ok (.iload_n 1, 1) := by decide +kernel
theorem d_WF_init_189 : decode b_WF_init 189 = .ok (.bipush 16, 2) := by decide +kernel
theorem d_WF_init_191 : decode b_WF_init 191 = .ok (.if_icmp .ge 22, 3) := by decide +kernel
theorem d_WF_init_194 : decode b_WF_init 194 = .ok (.aload_n 0, 1) := by decide +kernel
theorem d_WF_init_195 : decode b_WF_init 195 = .ok (.getfield 62, 3) := by decide +kernel
theorem d_WF_init_198 : decode b_WF_init 198 = .ok (.iload_n 1, 1) := by decide +kernel
theorem d_WF_init_199 : decode b_WF_init 199 = .ok (.new 60, 3) := by decide +kernel
theorem d_WF_init_202 : decode b_WF_init 202 = .ok (.dup, 1) := by decide +kernel
theorem d_WF_init_203 : decode b_WF_init 203 = .ok (.invokespecial 74, 3) := by decide +kernel
theorem d_WF_init_206 : decode b_WF_init 206 = .ok (.aastore, 1) := by decide +kernel
theorem d_WF_init_207 : decode b_WF_init 207 = .ok (.iinc 1 1, 3) := by decide +kernel
theorem d_WF_init_210 : decode b_WF_init 210 = .ok (.goto (-22), 3) := by decide +kernel
theorem d_WF_init_213 : decode b_WF_init 213 = .ok (.return_, 1) := by decide +kernel
abbrev b_WF_type : ByteArray := prog_1_method_2_code
theorem d_WF_type_0 : decode b_WF_type 0 = .ok (.aload_n 0, 1) := by decide +kernel
theorem d_WF_type_1 : decode b_WF_type 1 = .ok (.getfield 29, 3) := by decide +kernel
theorem d_WF_type_4 : decode b_WF_type 4 = .ok (.iload_n 1, 1) := by decide +kernel
theorem d_WF_type_5 : decode b_WF_type 5 = .ok (.invokevirtual 75, 3) := by decide +kernel
theorem d_WF_type_8 : decode b_WF_type 8 = .ok (.ireturn, 1) := by decide +kernel
abbrev b_WF_draw : ByteArray := prog_1_method_3_code
theorem d_WF_draw_0 : decode b_WF_draw 0 = .ok (.iload_n 1, 1) := by decide +kernel
theorem d_WF_draw_1 : decode b_WF_draw 1 = .ok (.iload_n 2, 1) := by decide +kernel
theorem d_WF_draw_2 : decode b_WF_draw 2 = .ok (.invokestatic 79, 3) := by decide +kernel
theorem d_WF_draw_5 : decode b_WF_draw 5 = .ok (.ifCond .eq 12, 3) := by decide +kernel
theorem d_WF_draw_8 : decode b_WF_draw 8 = .ok (.iload_n 3, 1) := by decide +kernel
theorem d_WF_draw_9 : decode b_WF_draw 9 = .ok (.ifCond .lt 8, 3) := by decide +kernel
theorem d_WF_draw_12 : decode b_WF_draw 12 = .ok (.iload_n 3, 1) := by decide +kernel
theorem d_WF_draw_13 : decode b_WF_draw 13 = .ok (.iconst 4, 1) := by decide +kernel
theorem d_WF_draw_14 : decode b_WF_draw 14 = .ok (.if_icmp .lt 13, 3) := by decide +kernel
theorem d_WF_draw_17 : decode b_WF_draw 17 = .ok (.new 83, 3) := by decide +kernel
theorem d_WF_draw_20 : decode b_WF_draw 20 = .ok (.dup, 1) := by decide +kernel
theorem d_WF_draw_21 : decode b_WF_draw 21 = .ok (.ldc 85, 2) := by decide +kernel
theorem d_WF_draw_23 : decode b_WF_draw 23 = .ok (.invokespecial 87, 3) := by decide +kernel
theorem d_WF_draw_26 : decode b_WF_draw 26 = .ok (.athrow, 1) := by decide +kernel
theorem d_WF_draw_27 : decode b_WF_draw 27 = .ok (.aload_n 0, 1) := by decide +kernel
theorem d_WF_draw_28 : decode b_WF_draw 28 = .ok (.getfield 29, 3) := by decide +kernel
theorem d_WF_draw_31 : decode b_WF_draw 31 = .ok (.iconst 4, 1) := by decide +kernel
theorem d_WF_draw_32 : decode b_WF_draw 32 = .ok (.invokevirtual 90, 3) := by decide +kernel
theorem d_WF_draw_35 : decode b_WF_draw 35 = .ok (.ifCond .eq 10, 3) := by decide +kernel
theorem d_WF_draw_38 : decode b_WF_draw 38 = .ok (.aload_n 0, 1) := by decide +kernel
theorem d_WF_draw_39 : decode b_WF_draw 39 = .ok (.invokevirtual 94, 3) := by decide +kernel
theorem d_WF_draw_42 : decode b_WF_draw 42 = .ok (.ifCond .ne 13, 3) := by decide +kernel
theorem d_WF_draw_45 : decode b_WF_draw 45 = .ok (.new 98, 3) := by decide +kernel
theorem d_WF_draw_48 : decode b_WF_draw 48 = .ok (.dup, 1) := by decide +kernel
theorem d_WF_draw_49 : decode b_WF_draw 49 = .ok (.ldc 100, 2) := by decide +kernel
theorem d_WF_draw_51 : decode b_WF_draw 51 = .ok (.invokespecial 102, 3) := by decide +kernel
theorem d_WF_draw_54 : decode b_WF_draw 54 = .ok (.athrow, 1) := by decide +kernel
theorem d_WF_draw_55 : decode b_WF_draw 55 = .ok (.aload_n 0, 1) := by decide +kernel
theorem d_WF_draw_56 : decode b_WF_draw 56 = .ok (.getfield 22, 3) := by decide +kernel
theorem d_WF_draw_59 : decode b_WF_draw 59 = .ok (.aload_n 0, 1) := by decide +kernel
theorem d_WF_draw_60 : decode b_WF_draw 60 = .ok (.getfield 12, 3) := by decide +kernel
theorem d_WF_draw_63 : decode b_WF_draw 63 = .ok (.iload_n 1, 1) := by decide +kernel
theorem d_WF_draw_64 : decode b_WF_draw 64 = .ok (.iload_n 2, 1) := by decide +kernel
theorem d_WF_draw_65 : decode b_WF_draw 65 = .ok (.iload_n 3, 1) := by decide +kernel
theorem d_WF_draw_66 : decode b_WF_draw 66 = .ok (.invokevirtual 103, 3) := by decide +kernel
theorem d_WF_draw_69 : decode b_WF_draw 69 = .ok (.aload_n 0, 1) := by decide +kernel
theorem d_WF_draw_70 : decode b_WF_draw 70 = .ok (.aload_n 0, 1) := by decide +kernel
theorem d_WF_draw_71 : decode b_WF_draw 71 = .ok (.getfield 29, 3) := by decide +kernel
theorem d_WF_draw_74 : decode b_WF_draw 74 = .ok (.iconst 0, 1) := by decide +kernel
theorem d_WF_draw_75 : decode b_WF_draw 75 = .ok (.aload_n 0, 1) := by decide +kernel
theorem d_WF_draw_76 : decode b_WF_draw 76 = .ok (.getfield 29, 3) := by decide +kernel
theorem d_WF_draw_79 : decode b_WF_draw 79 = .ok (.getfield 107, 3) := by decide +kernel
theorem d_WF_draw_82 : decode b_WF_draw 82 = .ok (.iconst 1, 1) := by decide +kernel
theorem d_WF_draw_83 : decode b_WF_draw 83 = .ok (.invokevirtual 110, 3) := by decide +kernel
theorem d_WF_draw_86 : decode b_WF_draw 86 = .ok (.ifCond .ne 13, 3) := by decide +kernel
theorem d_WF_draw_89 : decode b_WF_draw 89 = .ok (.new 114, 3) := by decide +kernel
theorem d_WF_draw_92 : decode b_WF_draw 92 = .ok (.dup, 1) := by decide +kernel
theorem d_WF_draw_93 : decode b_WF_draw 93 = .ok (.ldc 116, 2) := by decide +kernel
theorem d_WF_draw_95 : decode b_WF_draw 95 = .ok (.invokespecial 118, 3) := by decide +kernel
theorem d_WF_draw_98 : decode b_WF_draw 98 = .ok (.athrow, 1) := by decide +kernel
theorem d_WF_draw_99 : decode b_WF_draw 99 = .ok (.aload_n 0, 1) := by decide +kernel
theorem d_WF_draw_100 : decode b_WF_draw 100 = .ok (.getfield 12, 3) := by decide +kernel
theorem d_WF_draw_103 : decode b_WF_draw 103 = .ok (.aload_n 0, 1) := by decide +kernel
theorem d_WF_draw_104 : decode b_WF_draw 104 = .ok (.getfield 22, 3) := by decide +kernel
theorem d_WF_draw_107 : decode b_WF_draw 107 = .ok (.getfield 119, 3) := by decide +kernel
theorem d_WF_draw_110 : decode b_WF_draw 110 = .ok (.invokevirtual 122, 3) := by decide +kernel
theorem d_WF_draw_113 : decode b_WF_draw 113 = .ok (.aload_n 0, 1) := by decide +kernel
theorem d_WF_draw_114 : decode b_WF_draw 114 = .ok (.getfield 29, 3) := by decide +kernel
theorem d_WF_draw_117 : decode b_WF_draw 117 = .ok (.invokevirtual 126, 3) := by decide +kernel
theorem d_WF_draw_120 : decode b_WF_draw 120 = .ok (.aload_n 0, 1) := by decide +kernel
theorem d_WF_draw_121 : decode b_WF_draw 121 = .ok (.invokevirtual 129, 3) := by decide +kernel
theorem d_WF_draw_124 : decode b_WF_draw 124 = .ok (.aload_n 0, 1) := by decide +kernel
theorem d_WF_draw_125 : decode b_WF_draw 125 = .ok (.getfield 22, 3) := by decide +kernel
theorem d_WF_draw_128 : decode b_WF_draw 128 = .ok (.getfield 132, 3) := by decide +kernel
theorem d_WF_draw_131 : decode b_WF_draw 131 = .ok (.ireturn, 1) := by decide +kernel
abbrev b_WF_macro : ByteArray := prog_1_method_4_code
theorem d_WF_macro_0 : decode b_WF_macro 0 = .ok (.iload_n 1, 1) := by decide +kernel
theorem d_WF_macro_1 : decode b_WF_macro 1 = .ok (.ifCond .lt 8, 3) := by decide +kernel
theorem d_WF_macro_4 : decode b_WF_macro 4 = .ok (.iload_n 1, 1) := by decide +kernel
theorem d_WF_macro_5 : decode b_WF_macro 5 = .ok (.iconst 4, 1) := by decide +kernel
theorem d_WF_macro_6 : decode b_WF_macro 6 = .ok (.if_icmp .lt 13, 3) := by decide +kernel
theorem d_WF_macro_9 : decode b_WF_macro 9 = .ok (.new 83, 3) := by decide +kernel
theorem d_WF_macro_12 : decode b_WF_macro 12 = .ok (.dup, 1) := by decide +kernel
theorem d_WF_macro_13 : decode b_WF_macro 13 = .ok (.ldc 135, 2) := by decide +kernel
theorem d_WF_macro_15 : decode b_WF_macro 15 = .ok (.invokespecial 87, 3) := by decide +kernel
theorem d_WF_macro_18 : decode b_WF_macro 18 = .ok (.athrow, 1) := by decide +kernel
theorem d_WF_macro_19 : decode b_WF_macro 19 = .ok (.aload_n 0, 1) := by decide +kernel
theorem d_WF_macro_20 : decode b_WF_macro 20 = .ok (.getfield 29, 3) := by decide +kernel
theorem d_WF_macro_23 : decode b_WF_macro 23 = .ok (.iload_n 1, 1) := by decide +kernel
theorem d_WF_macro_24 : decode b_WF_macro 24 = .ok (.invokevirtual 90, 3) := by decide +kernel
theorem d_WF_macro_27 : decode b_WF_macro 27 = .ok (.ifCond .ne 13, 3) := by decide +kernel
theorem d_WF_macro_30 : decode b_WF_macro 30 = .ok (.new 98, 3) := by decide +kernel
theorem d_WF_macro_33 : decode b_WF_macro 33 = .ok (.dup, 1) := by decide +kernel
theorem d_WF_macro_34 : decode b_WF_macro 34 = .ok (.ldc 137, 2) := by decide +kernel
theorem d_WF_macro_36 : decode b_WF_macro 36 = .ok (.invokespecial 102, 3) := by decide +kernel
theorem d_WF_macro_39 : decode b_WF_macro 39 = .ok (.athrow, 1) := by decide +kernel
theorem d_WF_macro_40 : decode b_WF_macro 40 = .ok (.aload_n 0, 1) := by decide +kernel
theorem d_WF_macro_41 : decode b_WF_macro 41 = .ok (.getfield 33, 3) := by decide +kernel
theorem d_WF_macro_44 : decode b_WF_macro 44 = .ok (.iload_n 1, 1) := by decide +kernel
theorem d_WF_macro_45 : decode b_WF_macro 45 = .ok (.aaload, 1) := by decide +kernel
theorem d_WF_macro_46 : decode b_WF_macro 46 = .ok (.aload_n 0, 1) := by decide +kernel
theorem d_WF_macro_47 : decode b_WF_macro 47 = .ok (.getfield 29, 3) := by decide +kernel
theorem d_WF_macro_50 : decode b_WF_macro 50 = .ok (.invokevirtual 139, 3) := by decide +kernel
theorem d_WF_macro_53 : decode b_WF_macro 53 = .ok (.aload_n 0, 1) := by decide +kernel
theorem d_WF_macro_54 : decode b_WF_macro 54 = .ok (.getfield 37, 3) := by decide +kernel
theorem d_WF_macro_57 : decode b_WF_macro 57 = .ok (.iload_n 1, 1) := by decide +kernel
theorem d_WF_macro_58 : decode b_WF_macro 58 = .ok (.iconst 1, 1) := by decide +kernel
theorem d_WF_macro_59 : decode b_WF_macro 59 = .ok (.bastore, 1) := by decide +kernel
theorem d_WF_macro_60 : decode b_WF_macro 60 = .ok (.aload_n 0, 1) := by decide +kernel
theorem d_WF_macro_61 : decode b_WF_macro 61 = .ok (.getfield 29, 3) := by decide +kernel
theorem d_WF_macro_64 : decode b_WF_macro 64 = .ok (.invokevirtual 126, 3) := by decide +kernel
theorem d_WF_macro_67 : decode b_WF_macro 67 = .ok (.return_, 1) := by decide +kernel
abbrev b_WF_wipe : ByteArray := prog_1_method_5_code
theorem d_WF_wipe_0 : decode b_WF_wipe 0 = .ok (.aload_n 0, 1) := by decide +kernel
theorem d_WF_wipe_1 : decode b_WF_wipe 1 = .ok (.getfield 29, 3) := by decide +kernel
theorem d_WF_wipe_4 : decode b_WF_wipe 4 = .ok (.invokevirtual 126, 3) := by decide +kernel
theorem d_WF_wipe_7 : decode b_WF_wipe 7 = .ok (.return_, 1) := by decide +kernel
abbrev b_WF_set : ByteArray := prog_1_method_6_code
theorem d_WF_set_0 : decode b_WF_set 0 = .ok (.iload_n 1, 1) := by decide +kernel
theorem d_WF_set_1 : decode b_WF_set 1 = .ok (.iload_n 2, 1) := by decide +kernel
theorem d_WF_set_2 : decode b_WF_set 2 = .ok (.invokestatic 79, 3) := by decide +kernel
theorem d_WF_set_5 : decode b_WF_set 5 = .ok (.ifCond .eq 12, 3) := by decide +kernel
theorem d_WF_set_8 : decode b_WF_set 8 = .ok (.iload_n 3, 1) := by decide +kernel
theorem d_WF_set_9 : decode b_WF_set 9 = .ok (.ifCond .lt 8, 3) := by decide +kernel
theorem d_WF_set_12 : decode b_WF_set 12 = .ok (.iload_n 3, 1) := by decide +kernel
theorem d_WF_set_13 : decode b_WF_set 13 = .ok (.iconst 3, 1) := by decide +kernel
theorem d_WF_set_14 : decode b_WF_set 14 = .ok (.if_icmp .le 5, 3) := by decide +kernel
theorem d_WF_set_17 : decode b_WF_set 17 = .ok (.iconst 0, 1) := by decide +kernel
theorem d_WF_set_18 : decode b_WF_set 18 = .ok (.ireturn, 1) := by decide +kernel
theorem d_WF_set_19 : decode b_WF_set 19 = .ok (.aload_n 0, 1) := by decide +kernel
theorem d_WF_set_20 : decode b_WF_set 20 = .ok (.getfield 12, 3) := by decide +kernel
theorem d_WF_set_23 : decode b_WF_set 23 = .ok (.iload_n 1, 1) := by decide +kernel
theorem d_WF_set_24 : decode b_WF_set 24 = .ok (.iload_n 2, 1) := by decide +kernel
theorem d_WF_set_25 : decode b_WF_set 25 = .ok (.iload_n 3, 1) := by decide +kernel
theorem d_WF_set_26 : decode b_WF_set 26 = .ok (.invokevirtual 142, 3) := by decide +kernel
theorem d_WF_set_29 : decode b_WF_set 29 = .ok (.aload_n 0, 1) := by decide +kernel
theorem d_WF_set_30 : decode b_WF_set 30 = .ok (.invokevirtual 129, 3) := by decide +kernel
theorem d_WF_set_33 : decode b_WF_set 33 = .ok (.iconst 1, 1) := by decide +kernel
theorem d_WF_set_34 : decode b_WF_set 34 = .ok (.ireturn, 1) := by decide +kernel
abbrev b_WF_cell : ByteArray := prog_1_method_7_code
theorem d_WF_cell_0 : decode b_WF_cell 0 = .ok (.aload_n 0, 1) := by decide +kernel
theorem d_WF_cell_1 : decode b_WF_cell 1 = .ok (.getfield 12, 3) := by decide +kernel
theorem d_WF_cell_4 : decode b_WF_cell 4 = .ok (.iload_n 1, 1) := by decide +kernel
theorem d_WF_cell_5 : decode b_WF_cell 5 = .ok (.iload_n 2, 1) := by decide +kernel
theorem d_WF_cell_6 : decode b_WF_cell 6 = .ok (.invokevirtual 146, 3) := by decide +kernel
theorem d_WF_cell_9 : decode b_WF_cell 9 = .ok (.ireturn, 1) := by decide +kernel
abbrev b_WF_copy : ByteArray := prog_1_method_8_code
theorem d_WF_copy_0 : decode b_WF_copy 0 = .ok (.iload 7, 2) := by decide +kernel
theorem d_WF_copy_2 : decode b_WF_copy 2 = .ok (.ifCond .lt 20, 3) := by decide +kernel
theorem d_WF_copy_5 : decode b_WF_copy 5 = .ok (.iload 7, 2) := by decide +kernel
theorem d_WF_copy_7 : decode b_WF_copy 7 = .ok (.iconst 4, 1) := by decide +kernel
theorem d_WF_copy_8 : decode b_WF_copy 8 = .ok (.if_icmp .ge 14, 3) := by decide +kernel
theorem d_WF_copy_11 : decode b_WF_copy 11 = .ok (.iload_n 1, 1) := by decide +kernel
theorem d_WF_copy_12 : decode b_WF_copy 12 = .ok (.iload_n 2, 1) := by decide +kernel
theorem d_WF_copy_13 : decode b_WF_copy 13 = .ok (.iload_n 3, 1) := by decide +kernel
theorem d_WF_copy_14 : decode b_WF_copy 14 = .ok (.iload 4, 2) := by decide +kernel
theorem d_WF_copy_16 : decode b_WF_copy 16 = .ok (.invokestatic 150, 3) := by decide +kernel
theorem d_WF_copy_19 : decode b_WF_copy 19 = .ok (.ifCond .ne 5, 3) := by decide +kernel
theorem d_WF_copy_22 : decode b_WF_copy 22 = .ok (.iconst 0, 1) := by decide +kernel
theorem d_WF_copy_23 : decode b_WF_copy 23 = .ok (.ireturn, 1) := by decide +kernel
theorem d_WF_copy_24 : decode b_WF_copy 24 = .ok (.iload 7, 2) := by decide +kernel
theorem d_WF_copy_26 : decode b_WF_copy 26 = .ok (.iconst 2, 1) := by decide +kernel
theorem d_WF_copy_27 : decode b_WF_copy 27 = .ok (.irem, 1) := by decide +kernel
theorem d_WF_copy_28 : decode b_WF_copy 28 = .ok (.iconst 1, 1) := by decide +kernel
theorem d_WF_copy_29 : decode b_WF_copy 29 = .ok (.if_icmp .ne 7, 3) := by decide +kernel
theorem d_WF_copy_32 : decode b_WF_copy 32 = .ok (.iconst 1, 1) := by decide +kernel
theorem d_WF_copy_33 : decode b_WF_copy 33 = .ok (.goto 4, 3) := by decide +kernel
theorem d_WF_copy_36 : decode b_WF_copy 36 = .ok (.iconst 0, 1) := by decide +kernel
theorem d_WF_copy_37 : decode b_WF_copy 37 = .ok (.istore 8, 2) := by decide +kernel
theorem d_WF_copy_39 : decode b_WF_copy 39 = .ok (.iload 8, 2) := by decide +kernel
theorem d_WF_copy_41 : decode b_WF_copy 41 = .ok (.ifCond .eq 8, 3) := by decide +kernel
theorem d_WF_copy_44 : decode b_WF_copy 44 = .ok (.iload 4, 2) := by decide +kernel
theorem d_WF_copy_46 : decode b_WF_copy 46 = .ok (.goto 4, 3) := by decide +kernel
theorem d_WF_copy_49 : decode b_WF_copy 49 = .ok (.iload_n 3, 1) := by decide +kernel
theorem d_WF_copy_50 : decode b_WF_copy 50 = .ok (.istore 9, 2) := by decide +kernel
theorem d_WF_copy_52 : decode b_WF_copy 52 = .ok (.iload 8, 2) := by decide +kernel
theorem d_WF_copy_54 : decode b_WF_copy 54 = .ok (.ifCond .eq 7, 3) := by decide +kernel
theorem d_WF_copy_57 : decode b_WF_copy 57 = .ok (.iload_n 3, 1) := by decide +kernel
theorem d_WF_copy_58 : decode b_WF_copy 58 = .ok (.goto 5, 3) := by decide +kernel
theorem d_WF_copy_61 : decode b_WF_copy 61 = .ok (.iload 4, 2) := by decide +kernel
theorem d_WF_copy_63 : decode b_WF_copy 63 = .ok (.istore 10, 2) := by decide +kernel
theorem d_WF_copy_65 : decode b_WF_copy 65 = .ok (.iload 5, 2) := by decide +kernel
theorem d_WF_copy_67 : decode b_WF_copy 67 = .ok (.iload 6, 2) := by decide +kernel
theorem d_WF_copy_69 : decode b_WF_copy 69 = .ok (.iload 9, 2) := by decide +kernel
theorem d_WF_copy_71 : decode b_WF_copy 71 = .ok (.iload 10, 2) := by decide +kernel
theorem d_WF_copy_73 : decode b_WF_copy 73 = .ok (.invokestatic 150, 3) := by decide +kernel
theorem d_WF_copy_76 : decode b_WF_copy 76 = .ok (.ifCond .ne 5, 3) := by decide +kernel
theorem d_WF_copy_79 : decode b_WF_copy 79 = .ok (.iconst 0, 1) := by decide +kernel
theorem d_WF_copy_80 : decode b_WF_copy 80 = .ok (.ireturn, 1) := by decide +kernel
theorem d_WF_copy_81 : decode b_WF_copy 81 = .ok (.aload_n 0, 1) := by decide +kernel
theorem d_WF_copy_82 : decode b_WF_copy 82 = .ok (.getfield 16, 3) := by decide +kernel
theorem d_WF_copy_85 : decode b_WF_copy 85 = .ok (.aload_n 0, 1) := by decide +kernel
theorem d_WF_copy_86 : decode b_WF_copy 86 = .ok (.getfield 12, 3) := by decide +kernel
theorem d_WF_copy_89 : decode b_WF_copy 89 = .ok (.invokevirtual 122, 3) := by decide +kernel
theorem d_WF_copy_92 : decode b_WF_copy 92 = .ok (.aload_n 0, 1) := by decide +kernel
theorem d_WF_copy_93 : decode b_WF_copy 93 = .ok (.iload_n 1, 1) := by decide +kernel
theorem d_WF_copy_94 : decode b_WF_copy 94 = .ok (.iload_n 2, 1) := by decide +kernel
theorem d_WF_copy_95 : decode b_WF_copy 95 = .ok (.iload_n 3, 1) := by decide +kernel
theorem d_WF_copy_96 : decode b_WF_copy 96 = .ok (.iload 4, 2) := by decide +kernel
theorem d_WF_copy_98 : decode b_WF_copy 98 = .ok (.iload 5, 2) := by decide +kernel
theorem d_WF_copy_100 : decode b_WF_copy 100 = .ok (.iload 6, 2) := by decide +kernel
theorem d_WF_copy_102 : decode b_WF_copy 102 = .ok (.iload 7, 2) := by decide +kernel
theorem d_WF_copy_104 : decode b_WF_copy 104 = .ok (.invokevirtual 154, 3) := by decide +kernel
theorem d_WF_copy_107 : decode b_WF_copy 107 = .ok (.aload_n 0, 1) := by decide +kernel
theorem d_WF_copy_108 : decode b_WF_copy 108 = .ok (.invokevirtual 129, 3) := by decide +kernel
theorem d_WF_copy_111 : decode b_WF_copy 111 = .ok (.iconst 1, 1) := by decide +kernel
theorem d_WF_copy_112 : decode b_WF_copy 112 = .ok (.ireturn, 1) := by decide +kernel
abbrev b_WF_source : ByteArray := prog_1_method_9_code
theorem d_WF_source_0 : decode b_WF_source 0 = .ok (.iload_n 1, 1) := by decide +kernel
theorem d_WF_source_1 : decode b_WF_source 1 = .ok (.iload_n 2, 1) := by decide +kernel
theorem d_WF_source_2 : decode b_WF_source 2 = .ok (.invokestatic 79, 3) := by decide +kernel
theorem d_WF_source_5 : decode b_WF_source 5 = .ok (.ifCond .eq 24, 3) := by decide +kernel
theorem d_WF_source_8 : decode b_WF_source 8 = .ok (.iload 5, 2) := by decide +kernel
theorem d_WF_source_10 : decode b_WF_source 10 = .ok (.iconst 1, 1) := by decide +kernel
theorem d_WF_source_11 : decode b_WF_source 11 = .ok (.if_icmp .lt 18, 3) := by decide +kernel
theorem d_WF_source_14 : decode b_WF_source 14 = .ok (.iload 5, 2) := by decide +kernel
theorem d_WF_source_16 : decode b_WF_source 16 = .ok (.bipush 64, 2) := by decide +kernel
theorem d_WF_source_18 : decode b_WF_source 18 = .ok (.if_icmp .gt 11, 3) := by decide +kernel
theorem d_WF_source_21 : decode b_WF_source 21 = .ok (.aload_n 0, 1) := by decide +kernel
theorem d_WF_source_22 : decode b_WF_source 22 = .ok (.getfield 47, 3) := by decide +kernel
theorem d_WF_source_25 : decode b_WF_source 25 = .ok (.iconst 4, 1) := by decide +kernel
theorem d_WF_source_26 : decode b_WF_source 26 = .ok (.if_icmp .lt 5, 3) := by decide +kernel
theorem d_WF_source_29 : decode b_WF_source 29 = .ok (.iconst (-1), 1) := by decide +kernel
theorem d_WF_source_30 : decode b_WF_source 30 = .ok (.ireturn, 1) := by decide +kernel
theorem d_WF_source_31 : decode b_WF_source 31 = .ok (.aload_n 0, 1) := by decide +kernel
theorem d_WF_source_32 : decode b_WF_source 32 = .ok (.getfield 43, 3) := by decide +kernel
theorem d_WF_source_35 : decode b_WF_source 35 = .ok (.aload_n 0, 1) := by decide +kernel
theorem d_WF_source_36 : decode b_WF_source 36 = .ok (.getfield 47, 3) := by decide +kernel
theorem d_WF_source_39 : decode b_WF_source 39 = .ok (.aaload, 1) := by decide +kernel
theorem d_WF_source_40 : decode b_WF_source 40 = .ok (.iload_n 1, 1) := by decide +kernel
theorem d_WF_source_41 : decode b_WF_source 41 = .ok (.iload_n 2, 1) := by decide +kernel
theorem d_WF_source_42 : decode b_WF_source 42 = .ok (.lload_n 3, 1) := by decide +kernel
theorem d_WF_source_43 : decode b_WF_source 43 = .ok (.iload 5, 2) := by decide +kernel
theorem d_WF_source_45 : decode b_WF_source 45 = .ok (.invokevirtual 158, 3) := by decide +kernel
theorem d_WF_source_48 : decode b_WF_source 48 = .ok (.aload_n 0, 1) := by decide +kernel
theorem d_WF_source_49 : decode b_WF_source 49 = .ok (.dup, 1) := by decide +kernel
theorem d_WF_source_50 : decode b_WF_source 50 = .ok (.getfield 47, 3) := by decide +kernel
theorem d_WF_source_53 : decode b_WF_source 53 = .ok (.iconst 1, 1) := by decide +kernel
theorem d_WF_source_54 : decode b_WF_source 54 = .ok (.iadd, 1) := by decide +kernel
theorem d_WF_source_55 : decode b_WF_source 55 = .ok (.putfield 47, 3) := by decide +kernel
theorem d_WF_source_58 : decode b_WF_source 58 = .ok (.aload_n 0, 1) := by decide +kernel
theorem d_WF_source_59 : decode b_WF_source 59 = .ok (.getfield 47, 3) := by decide +kernel
theorem d_WF_source_62 : decode b_WF_source 62 = .ok (.iconst 1, 1) := by decide +kernel
theorem d_WF_source_63 : decode b_WF_source 63 = .ok (.isub, 1) := by decide +kernel
theorem d_WF_source_64 : decode b_WF_source 64 = .ok (.ireturn, 1) := by decide +kernel
abbrev b_WF_probe : ByteArray := prog_1_method_10_code
theorem d_WF_probe_0 : decode b_WF_probe 0 = .ok (.iload_n 1, 1) := by decide +kernel
theorem d_WF_probe_1 : decode b_WF_probe 1 = .ok (.iload_n 2, 1) := by decide +kernel
theorem d_WF_probe_2 : decode b_WF_probe 2 = .ok (.invokestatic 79, 3) := by decide +kernel
theorem d_WF_probe_5 : decode b_WF_probe 5 = .ok (.ifCond .eq 11, 3) := by decide +kernel
theorem d_WF_probe_8 : decode b_WF_probe 8 = .ok (.aload_n 0, 1) := by decide +kernel
theorem d_WF_probe_9 : decode b_WF_probe 9 = .ok (.getfield 57, 3) := by decide +kernel
theorem d_WF_probe_12 : decode b_WF_probe 12 = .ok (.iconst 4, 1) := by decide +kernel
theorem d_WF_probe_13 : decode b_WF_probe 13 = .ok (.if_icmp .lt 5, 3) := by decide +kernel
theorem d_WF_probe_16 : decode b_WF_probe 16 = .ok (.iconst (-1), 1) := by decide +kernel
theorem d_WF_probe_17 : decode b_WF_probe 17 = .ok (.ireturn, 1) := by decide +kernel
theorem d_WF_probe_18 : decode b_WF_probe 18 = .ok (.aload_n 0, 1) := by decide +kernel
theorem d_WF_probe_19 : decode b_WF_probe 19 = .ok (.getfield 53, 3) := by decide +kernel
theorem d_WF_probe_22 : decode b_WF_probe 22 = .ok (.aload_n 0, 1) := by decide +kernel
theorem d_WF_probe_23 : decode b_WF_probe 23 = .ok (.getfield 57, 3) := by decide +kernel
theorem d_WF_probe_26 : decode b_WF_probe 26 = .ok (.aaload, 1) := by decide +kernel
theorem d_WF_probe_27 : decode b_WF_probe 27 = .ok (.iload_n 1, 1) := by decide +kernel
theorem d_WF_probe_28 : decode b_WF_probe 28 = .ok (.iload_n 2, 1) := by decide +kernel
theorem d_WF_probe_29 : decode b_WF_probe 29 = .ok (.invokevirtual 161, 3) := by decide +kernel
theorem d_WF_probe_32 : decode b_WF_probe 32 = .ok (.aload_n 0, 1) := by decide +kernel
theorem d_WF_probe_33 : decode b_WF_probe 33 = .ok (.dup, 1) := by decide +kernel
theorem d_WF_probe_34 : decode b_WF_probe 34 = .ok (.getfield 57, 3) := by decide +kernel
theorem d_WF_probe_37 : decode b_WF_probe 37 = .ok (.iconst 1, 1) := by decide +kernel
theorem d_WF_probe_38 : decode b_WF_probe 38 = .ok (.iadd, 1) := by decide +kernel
theorem d_WF_probe_39 : decode b_WF_probe 39 = .ok (.putfield 57, 3) := by decide +kernel
theorem d_WF_probe_42 : decode b_WF_probe 42 = .ok (.aload_n 0, 1) := by decide +kernel
theorem d_WF_probe_43 : decode b_WF_probe 43 = .ok (.getfield 57, 3) := by decide +kernel
theorem d_WF_probe_46 : decode b_WF_probe 46 = .ok (.iconst 1, 1) := by decide +kernel
theorem d_WF_probe_47 : decode b_WF_probe 47 = .ok (.isub, 1) := by decide +kernel
theorem d_WF_probe_48 : decode b_WF_probe 48 = .ok (.ireturn, 1) := by decide +kernel
abbrev b_WF_run : ByteArray := prog_1_method_11_code
theorem d_WF_run_0 : decode b_WF_run 0 = .ok (.iload_n 1, 1) := by decide +kernel
theorem d_WF_run_1 : decode b_WF_run 1 = .ok (.iconst 1, 1) := by decide +kernel
theorem d_WF_run_2 : decode b_WF_run 2 = .ok (.if_icmp .lt 9, 3) := by decide +kernel
theorem d_WF_run_5 : decode b_WF_run 5 = .ok (.iload_n 1, 1) := by decide +kernel
theorem d_WF_run_6 : decode b_WF_run 6 = .ok (.bipush 60, 2) := by decide +kernel
theorem d_WF_run_8 : decode b_WF_run 8 = .ok (.if_icmp .le 5, 3) := by decide +kernel
theorem d_WF_run_11 : decode b_WF_run 11 = .ok (.iconst (-1), 1) := by decide +kernel
theorem d_WF_run_12 : decode b_WF_run 12 = .ok (.ireturn, 1) := by decide +kernel
theorem d_WF_run_13 : decode b_WF_run 13 = .ok (.iconst 0, 1) := by decide +kernel
theorem d_WF_run_14 : decode b_WF_run 14 = .ok (.istore_n 2, 1) := by decide +kernel
theorem d_WF_run_15 : decode b_WF_run 15 = .ok (.iload_n 2, 1) := by decide +kernel
theorem d_WF_run_16 : decode b_WF_run 16 = .ok (.iload_n 1, 1) := by decide +kernel
theorem d_WF_run_17 : decode b_WF_run 17 = .ok (.if_icmp .ge 13, 3) := by decide +kernel
theorem d_WF_run_20 : decode b_WF_run 20 = .ok (.aload_n 0, 1) := by decide +kernel
theorem d_WF_run_21 : decode b_WF_run 21 = .ok (.invokevirtual 164, 3) := by decide +kernel
theorem d_WF_run_24 : decode b_WF_run 24 = .ok (.iinc 2 1, 3) := by decide +kernel
theorem d_WF_run_27 : decode b_WF_run 27 = .ok (.goto (-12), 3) := by decide +kernel
theorem d_WF_run_30 : decode b_WF_run 30 = .ok (.aload_n 0, 1) := by decide +kernel
theorem d_WF_run_31 : decode b_WF_run 31 = .ok (.getfield 12, 3) := by decide +kernel
theorem d_WF_run_34 : decode b_WF_run 34 = .ok (.iconst 1, 1) := by decide +kernel
theorem d_WF_run_35 : decode b_WF_run 35 = .ok (.invokevirtual 167, 3) := by decide +kernel
theorem d_WF_run_38 : decode b_WF_run 38 = .ok (.ireturn, 1) := by decide +kernel
abbrev b_WF_back : ByteArray := prog_1_method_12_code
theorem d_WF_back_0 : decode b_WF_back 0 = .ok (.iload_n 1, 1) := by decide +kernel
theorem d_WF_back_1 : decode b_WF_back 1 = .ok (.iconst 1, 1) := by decide +kernel
theorem d_WF_back_2 : decode b_WF_back 2 = .ok (.if_icmp .lt 11, 3) := by decide +kernel
theorem d_WF_back_5 : decode b_WF_back 5 = .ok (.iload_n 1, 1) := by decide +kernel
theorem d_WF_back_6 : decode b_WF_back 6 = .ok (.aload_n 0, 1) := by decide +kernel
theorem d_WF_back_7 : decode b_WF_back 7 = .ok (.getfield 66, 3) := by decide +kernel
theorem d_WF_back_10 : decode b_WF_back 10 = .ok (.if_icmp .le 5, 3) := by decide +kernel
theorem d_WF_back_13 : decode b_WF_back 13 = .ok (.iconst 0, 1) := by decide +kernel
theorem d_WF_back_14 : decode b_WF_back 14 = .ok (.ireturn, 1) := by decide +kernel
theorem d_WF_back_15 : decode b_WF_back 15 = .ok (.aload_n 0, 1) := by decide +kernel
theorem d_WF_back_16 : decode b_WF_back 16 = .ok (.dup, 1) := by decide +kernel
theorem d_WF_back_17 : decode b_WF_back 17 = .ok (.getfield 69, 3) := by decide +kernel
theorem d_WF_back_20 : decode b_WF_back 20 = .ok (.iload_n 1, 1) := by decide +kernel
theorem d_WF_back_21 : decode b_WF_back 21 = .ok (.isub, 1) := by decide +kernel
theorem d_WF_back_22 : decode b_WF_back 22 = .ok (.putfield 69, 3) := by decide +kernel
theorem d_WF_back_25 : decode b_WF_back 25 = .ok (.aload_n 0, 1) := by decide +kernel
theorem d_WF_back_26 : decode b_WF_back 26 = .ok (.dup, 1) := by decide +kernel
theorem d_WF_back_27 : decode b_WF_back 27 = .ok (.getfield 66, 3) := by decide +kernel
theorem d_WF_back_30 : decode b_WF_back 30 = .ok (.iload_n 1, 1) := by decide +kernel
theorem d_WF_back_31 : decode b_WF_back 31 = .ok (.isub, 1) := by decide +kernel
theorem d_WF_back_32 : decode b_WF_back 32 = .ok (.putfield 66, 3) := by decide +kernel
theorem d_WF_back_35 : decode b_WF_back 35 = .ok (.aload_n 0, 1) := by decide +kernel
theorem d_WF_back_36 : decode b_WF_back 36 = .ok (.aload_n 0, 1) := by decide +kernel
theorem d_WF_back_37 : decode b_WF_back 37 = .ok (.getfield 69, 3) := by decide +kernel
theorem d_WF_back_40 : decode b_WF_back 40 = .ok (.invokevirtual 171, 3) := by decide +kernel
theorem d_WF_back_43 : decode b_WF_back 43 = .ok (.astore_n 2, 1) := by decide +kernel
theorem d_WF_back_44 : decode b_WF_back 44 = .ok (.aload_n 0, 1) := by decide +kernel
theorem d_WF_back_45 : decode b_WF_back 45 = .ok (.getfield 12, 3) := by decide +kernel
theorem d_WF_back_48 : decode b_WF_back 48 = .ok (.aload_n 2, 1) := by decide +kernel
theorem d_WF_back_49 : decode b_WF_back 49 = .ok (.getfield 175, 3) := by decide +kernel
theorem d_WF_back_52 : decode b_WF_back 52 = .ok (.invokevirtual 122, 3) := by decide +kernel
theorem d_WF_back_55 : decode b_WF_back 55 = .ok (.iconst 0, 1) := by decide +kernel
theorem d_WF_back_56 : decode b_WF_back 56 = .ok (.istore_n 3, 1) := by decide +kernel
theorem d_WF_back_57 : decode b_WF_back 57 = .ok (.iload_n 3, 1) := by decide +kernel
theorem d_WF_back_58 : decode b_WF_back 58 = .ok (.iconst 4, 1) := by decide +kernel
theorem d_WF_back_59 : decode b_WF_back 59 = .ok (.if_icmp .ge 24, 3) := by decide +kernel
theorem d_WF_back_62 : decode b_WF_back 62 = .ok (.aload_n 0, 1) := by decide +kernel
theorem d_WF_back_63 : decode b_WF_back 63 = .ok (.getfield 43, 3) := by decide +kernel
theorem d_WF_back_66 : decode b_WF_back 66 = .ok (.iload_n 3, 1) := by decide +kernel
theorem d_WF_back_67 : decode b_WF_back 67 = .ok (.aaload, 1) := by decide +kernel
theorem d_WF_back_68 : decode b_WF_back 68 = .ok (.aload_n 2, 1) := by decide +kernel
theorem d_WF_back_69 : decode b_WF_back 69 = .ok (.getfield 178, 3) := by decide +kernel
theorem d_WF_back_72 : decode b_WF_back 72 = .ok (.iload_n 3, 1) := by decide +kernel
theorem d_WF_back_73 : decode b_WF_back 73 = .ok (.iaload, 1) := by decide +kernel
theorem d_WF_back_74 : decode b_WF_back 74 = .ok (.putfield 182, 3) := by decide +kernel
theorem d_WF_back_77 : decode b_WF_back 77 = .ok (.iinc 3 1, 3) := by decide +kernel
theorem d_WF_back_80 : decode b_WF_back 80 = .ok (.goto (-23), 3) := by decide +kernel
theorem d_WF_back_83 : decode b_WF_back 83 = .ok (.iconst 1, 1) := by decide +kernel
theorem d_WF_back_84 : decode b_WF_back 84 = .ok (.ireturn, 1) := by decide +kernel
abbrev b_WF_period : ByteArray := prog_1_method_13_code
theorem d_WF_period_0 : decode b_WF_period 0 = .ok (.iconst 1, 1) := by decide +kernel
theorem d_WF_period_1 : decode b_WF_period 1 = .ok (.istore_n 1, 1) := by decide +kernel
theorem d_WF_period_2 : decode b_WF_period 2 = .ok (.iload_n 1, 1) := by decide +kernel
theorem d_WF_period_3 : decode b_WF_period 3 = .ok (.aload_n 0, 1) := by decide +kernel
theorem d_WF_period_4 : decode b_WF_period 4 = .ok (.getfield 66, 3) := by decide +kernel
theorem d_WF_period_7 : decode b_WF_period 7 = .ok (.if_icmp .gt 34, 3) := by decide +kernel
theorem d_WF_period_10 : decode b_WF_period 10 = .ok (.aload_n 0, 1) := by decide +kernel
theorem d_WF_period_11 : decode b_WF_period 11 = .ok (.getfield 12, 3) := by decide +kernel
theorem d_WF_period_14 : decode b_WF_period 14 = .ok (.aload_n 0, 1) := by decide +kernel
theorem d_WF_period_15 : decode b_WF_period 15 = .ok (.aload_n 0, 1) := by decide +kernel
theorem d_WF_period_16 : decode b_WF_period 16 = .ok (.getfield 69, 3) := by decide +kernel
theorem d_WF_period_19 : decode b_WF_period 19 = .ok (.iload_n 1, 1) := by decide +kernel
theorem d_WF_period_20 : decode b_WF_period 20 = .ok (.isub, 1) := by decide +kernel
theorem d_WF_period_21 : decode b_WF_period 21 = .ok (.invokevirtual 171, 3) := by decide +kernel
theorem d_WF_period_24 : decode b_WF_period 24 = .ok (.getfield 175, 3) := by decide +kernel
theorem d_WF_period_27 : decode b_WF_period 27 = .ok (.invokevirtual 185, 3) := by decide +kernel
theorem d_WF_period_30 : decode b_WF_period 30 = .ok (.ifCond .eq 5, 3) := by decide +kernel
theorem d_WF_period_33 : decode b_WF_period 33 = .ok (.iload_n 1, 1) := by decide +kernel
theorem d_WF_period_34 : decode b_WF_period 34 = .ok (.ireturn, 1) := by decide +kernel
theorem d_WF_period_35 : decode b_WF_period 35 = .ok (.iinc 1 1, 3) := by decide +kernel
theorem d_WF_period_38 : decode b_WF_period 38 = .ok (.goto (-36), 3) := by decide +kernel
theorem d_WF_period_41 : decode b_WF_period 41 = .ok (.iconst 0, 1) := by decide +kernel
theorem d_WF_period_42 : decode b_WF_period 42 = .ok (.ireturn, 1) := by decide +kernel
abbrev b_WF_seen : ByteArray := prog_1_method_14_code
theorem d_WF_seen_0 : decode b_WF_seen 0 = .ok (.iload_n 1, 1) := by decide +kernel
theorem d_WF_seen_1 : decode b_WF_seen 1 = .ok (.ifCond .lt 20, 3) := by decide +kernel
theorem d_WF_seen_4 : decode b_WF_seen 4 = .ok (.iload_n 1, 1) := by decide +kernel
theorem d_WF_seen_5 : decode b_WF_seen 5 = .ok (.aload_n 0, 1) := by decide +kernel
theorem d_WF_seen_6 : decode b_WF_seen 6 = .ok (.getfield 57, 3) := by decide +kernel
theorem d_WF_seen_9 : decode b_WF_seen 9 = .ok (.if_icmp .ge 12, 3) := by decide +kernel
theorem d_WF_seen_12 : decode b_WF_seen 12 = .ok (.iload_n 2, 1) := by decide +kernel
theorem d_WF_seen_13 : decode b_WF_seen 13 = .ok (.ifCond .lt 8, 3) := by decide +kernel
theorem d_WF_seen_16 : decode b_WF_seen 16 = .ok (.iload_n 2, 1) := by decide +kernel
theorem d_WF_seen_17 : decode b_WF_seen 17 = .ok (.iconst 1, 1) := by decide +kernel
theorem d_WF_seen_18 : decode b_WF_seen 18 = .ok (.if_icmp .le 13, 3) := by decide +kernel
theorem d_WF_seen_21 : decode b_WF_seen 21 = .ok (.new 83, 3) := by decide +kernel
theorem d_WF_seen_24 : decode b_WF_seen 24 = .ok (.dup, 1) := by decide +kernel
theorem d_WF_seen_25 : decode b_WF_seen 25 = .ok (.ldc 189, 2) := by decide +kernel
theorem d_WF_seen_27 : decode b_WF_seen 27 = .ok (.invokespecial 87, 3) := by decide +kernel
theorem d_WF_seen_30 : decode b_WF_seen 30 = .ok (.athrow, 1) := by decide +kernel
theorem d_WF_seen_31 : decode b_WF_seen 31 = .ok (.iload_n 2, 1) := by decide +kernel
theorem d_WF_seen_32 : decode b_WF_seen 32 = .ok (.ifCond .ne 15, 3) := by decide +kernel
theorem d_WF_seen_35 : decode b_WF_seen 35 = .ok (.aload_n 0, 1) := by decide +kernel
theorem d_WF_seen_36 : decode b_WF_seen 36 = .ok (.getfield 53, 3) := by decide +kernel
theorem d_WF_seen_39 : decode b_WF_seen 39 = .ok (.iload_n 1, 1) := by decide +kernel
theorem d_WF_seen_40 : decode b_WF_seen 40 = .ok (.aaload, 1) := by decide +kernel
theorem d_WF_seen_41 : decode b_WF_seen 41 = .ok (.getfield 191, 3) := by decide +kernel
theorem d_WF_seen_44 : decode b_WF_seen 44 = .ok (.goto 12, 3) := by decide +kernel
theorem d_WF_seen_47 : decode b_WF_seen 47 = .ok (.aload_n 0, 1) := by decide +kernel
theorem d_WF_seen_48 : decode b_WF_seen 48 = .ok (.getfield 53, 3) := by decide +kernel
theorem d_WF_seen_51 : decode b_WF_seen 51 = .ok (.iload_n 1, 1) := by decide +kernel
theorem d_WF_seen_52 : decode b_WF_seen 52 = .ok (.aaload, 1) := by decide +kernel
theorem d_WF_seen_53 : decode b_WF_seen 53 = .ok (.getfield 194, 3) := by decide +kernel
theorem d_WF_seen_56 : decode b_WF_seen 56 = .ok (.ireturn, 1) := by decide +kernel
abbrev b_WF_record : ByteArray := prog_1_method_15_code
theorem d_WF_record_0 : decode b_WF_record 0 = .ok (.iload_n 1, 1) := by decide +kernel
theorem d_WF_record_1 : decode b_WF_record 1 = .ok (.ifCond .lt 23, 3) := by decide +kernel
theorem d_WF_record_4 : decode b_WF_record 4 = .ok (.iload_n 1, 1) := by decide +kernel
theorem d_WF_record_5 : decode b_WF_record 5 = .ok (.aload_n 0, 1) := by decide +kernel
theorem d_WF_record_6 : decode b_WF_record 6 = .ok (.getfield 57, 3) := by decide +kernel
theorem d_WF_record_9 : decode b_WF_record 9 = .ok (.if_icmp .ge 15, 3) := by decide +kernel
theorem d_WF_record_12 : decode b_WF_record 12 = .ok (.aload_n 0, 1) := by decide +kernel
theorem d_WF_record_13 : decode b_WF_record 13 = .ok (.getfield 53, 3) := by decide +kernel
theorem d_WF_record_16 : decode b_WF_record 16 = .ok (.iload_n 1, 1) := by decide +kernel
theorem d_WF_record_17 : decode b_WF_record 17 = .ok (.aaload, 1) := by decide +kernel
theorem d_WF_record_18 : decode b_WF_record 18 = .ok (.getfield 197, 3) := by decide +kernel
theorem d_WF_record_21 : decode b_WF_record 21 = .ok (.goto 4, 3) := by decide +kernel
theorem d_WF_record_24 : decode b_WF_record 24 = .ok (.lconst 0, 1) := by decide +kernel
theorem d_WF_record_25 : decode b_WF_record 25 = .ok (.lreturn, 1) := by decide +kernel
abbrev b_WF_look : ByteArray := prog_1_method_16_code
theorem d_WF_look_0 : decode b_WF_look 0 = .ok (.iload_n 1, 1) := by decide +kernel
theorem d_WF_look_1 : decode b_WF_look 1 = .ok (.tableswitch 102 0 7 #[47, 52, 61, 70, 79, 84, 89, 94], 47) := by decide +kernel
theorem d_WF_look_48 : decode b_WF_look 48 = .ok (.aload_n 0, 1) := by decide +kernel
theorem d_WF_look_49 : decode b_WF_look 49 = .ok (.getfield 69, 3) := by decide +kernel
theorem d_WF_look_52 : decode b_WF_look 52 = .ok (.ireturn, 1) := by decide +kernel
theorem d_WF_look_53 : decode b_WF_look 53 = .ok (.aload_n 0, 1) := by decide +kernel
theorem d_WF_look_54 : decode b_WF_look 54 = .ok (.getfield 12, 3) := by decide +kernel
theorem d_WF_look_57 : decode b_WF_look 57 = .ok (.iconst 1, 1) := by decide +kernel
theorem d_WF_look_58 : decode b_WF_look 58 = .ok (.invokevirtual 167, 3) := by decide +kernel
theorem d_WF_look_61 : decode b_WF_look 61 = .ok (.ireturn, 1) := by decide +kernel
theorem d_WF_look_62 : decode b_WF_look 62 = .ok (.aload_n 0, 1) := by decide +kernel
theorem d_WF_look_63 : decode b_WF_look 63 = .ok (.getfield 12, 3) := by decide +kernel
theorem d_WF_look_66 : decode b_WF_look 66 = .ok (.iconst 2, 1) := by decide +kernel
theorem d_WF_look_67 : decode b_WF_look 67 = .ok (.invokevirtual 167, 3) := by decide +kernel
theorem d_WF_look_70 : decode b_WF_look 70 = .ok (.ireturn, 1) := by decide +kernel
theorem d_WF_look_71 : decode b_WF_look 71 = .ok (.aload_n 0, 1) := by decide +kernel
theorem d_WF_look_72 : decode b_WF_look 72 = .ok (.getfield 12, 3) := by decide +kernel
theorem d_WF_look_75 : decode b_WF_look 75 = .ok (.iconst 3, 1) := by decide +kernel
theorem d_WF_look_76 : decode b_WF_look 76 = .ok (.invokevirtual 167, 3) := by decide +kernel
theorem d_WF_look_79 : decode b_WF_look 79 = .ok (.ireturn, 1) := by decide +kernel
theorem d_WF_look_80 : decode b_WF_look 80 = .ok (.aload_n 0, 1) := by decide +kernel
theorem d_WF_look_81 : decode b_WF_look 81 = .ok (.getfield 66, 3) := by decide +kernel
theorem d_WF_look_84 : decode b_WF_look 84 = .ok (.ireturn, 1) := by decide +kernel
theorem d_WF_look_85 : decode b_WF_look 85 = .ok (.aload_n 0, 1) := by decide +kernel
theorem d_WF_look_86 : decode b_WF_look 86 = .ok (.getfield 47, 3) := by decide +kernel
theorem d_WF_look_89 : decode b_WF_look 89 = .ok (.ireturn, 1) := by decide +kernel
theorem d_WF_look_90 : decode b_WF_look 90 = .ok (.aload_n 0, 1) := by decide +kernel
theorem d_WF_look_91 : decode b_WF_look 91 = .ok (.getfield 57, 3) := by decide +kernel
theorem d_WF_look_94 : decode b_WF_look 94 = .ok (.ireturn, 1) := by decide +kernel
theorem d_WF_look_95 : decode b_WF_look 95 = .ok (.aload_n 0, 1) := by decide +kernel
theorem d_WF_look_96 : decode b_WF_look 96 = .ok (.getfield 29, 3) := by decide +kernel
theorem d_WF_look_99 : decode b_WF_look 99 = .ok (.getfield 107, 3) := by decide +kernel
theorem d_WF_look_102 : decode b_WF_look 102 = .ok (.ireturn, 1) := by decide +kernel
theorem d_WF_look_103 : decode b_WF_look 103 = .ok (.iconst (-1), 1) := by decide +kernel
theorem d_WF_look_104 : decode b_WF_look 104 = .ok (.ireturn, 1) := by decide +kernel
abbrev b_WF_isWithin : ByteArray := prog_1_method_17_code
theorem d_WF_isWithin_0 : decode b_WF_isWithin 0 = .ok (.iload_n 0, 1) := by decide +kernel
theorem d_WF_isWithin_1 : decode b_WF_isWithin 1 = .ok (.ifCond .lt 23, 3) := by decide +kernel
theorem d_WF_isWithin_4 : decode b_WF_isWithin 4 = .ok (.iload_n 0, 1) := by decide +kernel
theorem d_WF_isWithin_5 : decode b_WF_isWithin 5 = .ok (.bipush 32, 2) := by decide +kernel
theorem d_WF_isWithin_7 : decode b_WF_isWithin 7 = .ok (.if_icmp .ge 17, 3) := by decide +kernel
theorem d_WF_isWithin_10 : decode b_WF_isWithin 10 = .ok (.iload_n 1, 1) := by decide +kernel
theorem d_WF_isWithin_11 : decode b_WF_isWithin 11 = .ok (.ifCond .lt 13, 3) := by decide +kernel
theorem d_WF_isWithin_14 : decode b_WF_isWithin 14 = .ok (.iload_n 1, 1) := by decide +kernel
theorem d_WF_isWithin_15 : decode b_WF_isWithin 15 = .ok (.bipush 24, 2) := by decide +kernel
theorem d_WF_isWithin_17 : decode b_WF_isWithin 17 = .ok (.if_icmp .ge 7, 3) := by decide +kernel
theorem d_WF_isWithin_20 : decode b_WF_isWithin 20 = .ok (.iconst 1, 1) := by decide +kernel
theorem d_WF_isWithin_21 : decode b_WF_isWithin 21 = .ok (.goto 4, 3) := by decide +kernel
theorem d_WF_isWithin_24 : decode b_WF_isWithin 24 = .ok (.iconst 0, 1) := by decide +kernel
theorem d_WF_isWithin_25 : decode b_WF_isWithin 25 = .ok (.ireturn, 1) := by decide +kernel
abbrev b_WF_isPiece : ByteArray := prog_1_method_18_code
theorem d_WF_isPiece_0 : decode b_WF_isPiece 0 = .ok (.iload_n 0, 1) := by decide +kernel
theorem d_WF_isPiece_1 : decode b_WF_isPiece 1 = .ok (.iload_n 1, 1) := by decide +kernel
theorem d_WF_isPiece_2 : decode b_WF_isPiece 2 = .ok (.invokestatic 79, 3) := by decide +kernel
theorem d_WF_isPiece_5 : decode b_WF_isPiece 5 = .ok (.ifCond .eq 33, 3) := by decide +kernel
theorem d_WF_isPiece_8 : decode b_WF_isPiece 8 = .ok (.iload_n 2, 1) := by decide +kernel
theorem d_WF_isPiece_9 : decode b_WF_isPiece 9 = .ok (.iconst 1, 1) := by decide +kernel
theorem d_WF_isPiece_10 : decode b_WF_isPiece 10 = .ok (.if_icmp .lt 28, 3) := by decide +kernel
theorem d_WF_isPiece_13 : decode b_WF_isPiece 13 = .ok (.iload_n 2, 1) := by decide +kernel
theorem d_WF_isPiece_14 : decode b_WF_isPiece 14 = .ok (.bipush 32, 2) := by decide +kernel
theorem d_WF_isPiece_16 : decode b_WF_isPiece 16 = .ok (.iload_n 0, 1) := by decide +kernel
theorem d_WF_isPiece_17 : decode b_WF_isPiece 17 = .ok (.isub, 1) := by decide +kernel
theorem d_WF_isPiece_18 : decode b_WF_isPiece 18 = .ok (.if_icmp .gt 20, 3) := by decide +kernel
theorem d_WF_isPiece_21 : decode b_WF_isPiece 21 = .ok (.iload_n 3, 1) := by decide +kernel
theorem d_WF_isPiece_22 : decode b_WF_isPiece 22 = .ok (.iconst 1, 1) := by decide +kernel
theorem d_WF_isPiece_23 : decode b_WF_isPiece 23 = .ok (.if_icmp .lt 15, 3) := by decide +kernel
theorem d_WF_isPiece_26 : decode b_WF_isPiece 26 = .ok (.iload_n 3, 1) := by decide +kernel
theorem d_WF_isPiece_27 : decode b_WF_isPiece 27 = .ok (.bipush 24, 2) := by decide +kernel
theorem d_WF_isPiece_29 : decode b_WF_isPiece 29 = .ok (.iload_n 1, 1) := by decide +kernel
theorem d_WF_isPiece_30 : decode b_WF_isPiece 30 = .ok (.isub, 1) := by decide +kernel
theorem d_WF_isPiece_31 : decode b_WF_isPiece 31 = .ok (.if_icmp .gt 7, 3) := by decide +kernel
theorem d_WF_isPiece_34 : decode b_WF_isPiece 34 = .ok (.iconst 1, 1) := by decide +kernel
theorem d_WF_isPiece_35 : decode b_WF_isPiece 35 = .ok (.goto 4, 3) := by decide +kernel
theorem d_WF_isPiece_38 : decode b_WF_isPiece 38 = .ok (.iconst 0, 1) := by decide +kernel
theorem d_WF_isPiece_39 : decode b_WF_isPiece 39 = .ok (.ireturn, 1) := by decide +kernel
abbrev b_WF_putTurned : ByteArray := prog_1_method_19_code
theorem d_WF_putTurned_0 : decode b_WF_putTurned 0 = .ok (.iconst 0, 1) := by decide +kernel
theorem d_WF_putTurned_1 : decode b_WF_putTurned 1 = .ok (.istore 8, 2) := by decide +kernel
theorem d_WF_putTurned_3 : decode b_WF_putTurned 3 = .ok (.iload 8, 2) := by decide +kernel
theorem d_WF_putTurned_5 : decode b_WF_putTurned 5 = .ok (.iload 4, 2) := by decide +kernel
theorem d_WF_putTurned_7 : decode b_WF_putTurned 7 = .ok (.if_icmp .ge 93, 3) := by decide +kernel
theorem d_WF_putTurned_10 : decode b_WF_putTurned 10 = .ok (.iconst 0, 1) := by decide +kernel
theorem d_WF_putTurned_11 : decode b_WF_putTurned 11 = .ok (.istore 9, 2) := by decide +kernel
theorem d_WF_putTurned_13 : decode b_WF_putTurned 13 = .ok (.iload 9, 2) := by decide +kernel
theorem d_WF_putTurned_15 : decode b_WF_putTurned 15 = .ok (.iload_n 3, 1) := by decide +kernel
theorem d_WF_putTurned_16 : decode b_WF_putTurned 16 = .ok (.if_icmp .ge 78, 3) := by decide +kernel
theorem d_WF_putTurned_19 : decode b_WF_putTurned 19 = .ok (.aload_n 0, 1) := by decide +kernel
theorem d_WF_putTurned_20 : decode b_WF_putTurned 20 = .ok (.getfield 16, 3) := by decide +kernel
theorem d_WF_putTurned_23 : decode b_WF_putTurned 23 = .ok (.iload_n 1, 1) := by decide +kernel
theorem d_WF_putTurned_24 : decode b_WF_putTurned 24 = .ok (.iload 9, 2) := by decide +kernel
theorem d_WF_putTurned_26 : decode b_WF_putTurned 26 = .ok (.iadd, 1) := by decide +kernel
theorem d_WF_putTurned_27 : decode b_WF_putTurned 27 = .ok (.iload_n 2, 1) := by decide +kernel
theorem d_WF_putTurned_28 : decode b_WF_putTurned 28 = .ok (.iload 8, 2) := by decide +kernel
theorem d_WF_putTurned_30 : decode b_WF_putTurned 30 = .ok (.iadd, 1) := by decide +kernel
theorem d_WF_putTurned_31 : decode b_WF_putTurned 31 = .ok (.invokevirtual 146, 3) := by decide +kernel
theorem d_WF_putTurned_34 : decode b_WF_putTurned 34 = .ok (.istore 10, 2) := by decide +kernel
theorem d_WF_putTurned_36 : decode b_WF_putTurned 36 = .ok (.iload 10, 2) := by decide +kernel
theorem d_WF_putTurned_38 : decode b_WF_putTurned 38 = .ok (.ifCond .eq 50, 3) := by decide +kernel
theorem d_WF_putTurned_41 : decode b_WF_putTurned 41 = .ok (.iload 5, 2) := by decide +kernel
theorem d_WF_putTurned_43 : decode b_WF_putTurned 43 = .ok (.iload 9, 2) := by decide +kernel
theorem d_WF_putTurned_45 : decode b_WF_putTurned 45 = .ok (.iload 8, 2) := by decide +kernel
theorem d_WF_putTurned_47 : decode b_WF_putTurned 47 = .ok (.iload_n 3, 1) := by decide +kernel
theorem d_WF_putTurned_48 : decode b_WF_putTurned 48 = .ok (.iload 4, 2) := by decide +kernel
theorem d_WF_putTurned_50 : decode b_WF_putTurned 50 = .ok (.iload 7, 2) := by decide +kernel
theorem d_WF_putTurned_52 : decode b_WF_putTurned 52 = .ok (.invokestatic 201, 3) := by decide +kernel
theorem d_WF_putTurned_55 : decode b_WF_putTurned 55 = .ok (.iadd, 1) := by decide +kernel
theorem d_WF_putTurned_56 : decode b_WF_putTurned 56 = .ok (.istore 11, 2) := by decide +kernel
theorem d_WF_putTurned_58 : decode b_WF_putTurned 58 = .ok (.iload 6, 2) := by decide +kernel
theorem d_WF_putTurned_60 : decode b_WF_putTurned 60 = .ok (.iload 9, 2) := by decide +kernel
theorem d_WF_putTurned_62 : decode b_WF_putTurned 62 = .ok (.iload 8, 2) := by decide +kernel
theorem d_WF_putTurned_64 : decode b_WF_putTurned 64 = .ok (.iload_n 3, 1) := by decide +kernel
theorem d_WF_putTurned_65 : decode b_WF_putTurned 65 = .ok (.iload 4, 2) := by decide +kernel
theorem d_WF_putTurned_67 : decode b_WF_putTurned 67 = .ok (.iload 7, 2) := by decide +kernel
theorem d_WF_putTurned_69 : decode b_WF_putTurned 69 = .ok (.invokestatic 205, 3) := by decide +kernel
theorem d_WF_putTurned_72 : decode b_WF_putTurned 72 = .ok (.iadd, 1) := by decide +kernel
theorem d_WF_putTurned_73 : decode b_WF_putTurned 73 = .ok (.istore 12, 2) := by decide +kernel
theorem d_WF_putTurned_75 : decode b_WF_putTurned 75 = .ok (.aload_n 0, 1) := by decide +kernel
theorem d_WF_putTurned_76 : decode b_WF_putTurned 76 = .ok (.getfield 12, 3) := by decide +kernel
theorem d_WF_putTurned_79 : decode b_WF_putTurned 79 = .ok (.iload 11, 2) := by decide +kernel
theorem d_WF_putTurned_81 : decode b_WF_putTurned 81 = .ok (.iload 12, 2) := by decide +kernel
theorem d_WF_putTurned_83 : decode b_WF_putTurned 83 = .ok (.iload 10, 2) := by decide +kernel
theorem d_WF_putTurned_85 : decode b_WF_putTurned 85 = .ok (.invokevirtual 142, 3) := by decide +kernel
theorem d_WF_putTurned_88 : decode b_WF_putTurned 88 = .ok (.iinc 9 1, 3) := by decide +kernel
theorem d_WF_putTurned_91 : decode b_WF_putTurned 91 = .ok (.goto (-78), 3) := by decide +kernel
theorem d_WF_putTurned_94 : decode b_WF_putTurned 94 = .ok (.iinc 8 1, 3) := by decide +kernel
theorem d_WF_putTurned_97 : decode b_WF_putTurned 97 = .ok (.goto (-94), 3) := by decide +kernel
theorem d_WF_putTurned_100 : decode b_WF_putTurned 100 = .ok (.return_, 1) := by decide +kernel
abbrev b_WF_turnedX : ByteArray := prog_1_method_20_code
theorem d_WF_turnedX_0 : decode b_WF_turnedX 0 = .ok (.iload 4, 2) := by decide +kernel
theorem d_WF_turnedX_2 : decode b_WF_turnedX 2 = .ok (.tableswitch 40 1 3 #[26, 32, 38], 26) := by decide +kernel
theorem d_WF_turnedX_28 : decode b_WF_turnedX 28 = .ok (.iload_n 3, 1) := by decide +kernel
theorem d_WF_turnedX_29 : decode b_WF_turnedX 29 = .ok (.iconst 1, 1) := by decide +kernel
theorem d_WF_turnedX_30 : decode b_WF_turnedX 30 = .ok (.isub, 1) := by decide +kernel
theorem d_WF_turnedX_31 : decode b_WF_turnedX 31 = .ok (.iload_n 1, 1) := by decide +kernel
theorem d_WF_turnedX_32 : decode b_WF_turnedX 32 = .ok (.isub, 1) := by decide +kernel
theorem d_WF_turnedX_33 : decode b_WF_turnedX 33 = .ok (.ireturn, 1) := by decide +kernel
theorem d_WF_turnedX_34 : decode b_WF_turnedX 34 = .ok (.iload_n 2, 1) := by decide +kernel
theorem d_WF_turnedX_35 : decode b_WF_turnedX 35 = .ok (.iconst 1, 1) := by decide +kernel
theorem d_WF_turnedX_36 : decode b_WF_turnedX 36 = .ok (.isub, 1) := by decide +kernel
theorem d_WF_turnedX_37 : decode b_WF_turnedX 37 = .ok (.iload_n 0, 1) := by decide +kernel
theorem d_WF_turnedX_38 : decode b_WF_turnedX 38 = .ok (.isub, 1) := by decide +kernel
theorem d_WF_turnedX_39 : decode b_WF_turnedX 39 = .ok (.ireturn, 1) := by decide +kernel
theorem d_WF_turnedX_40 : decode b_WF_turnedX 40 = .ok (.iload_n 1, 1) := by decide +kernel
theorem d_WF_turnedX_41 : decode b_WF_turnedX 41 = .ok (.ireturn, 1) := by decide +kernel
theorem d_WF_turnedX_42 : decode b_WF_turnedX 42 = .ok (.iload_n 0, 1) := by decide +kernel
theorem d_WF_turnedX_43 : decode b_WF_turnedX 43 = .ok (.ireturn, 1) := by decide +kernel
abbrev b_WF_turnedY : ByteArray := prog_1_method_21_code
theorem d_WF_turnedY_0 : decode b_WF_turnedY 0 = .ok (.iload 4, 2) := by decide +kernel
theorem d_WF_turnedY_2 : decode b_WF_turnedY 2 = .ok (.tableswitch 40 1 3 #[26, 28, 34], 26) := by decide +kernel
theorem d_WF_turnedY_28 : decode b_WF_turnedY 28 = .ok (.iload_n 0, 1) := by decide +kernel
theorem d_WF_turnedY_29 : decode b_WF_turnedY 29 = .ok (.ireturn, 1) := by decide +kernel
theorem d_WF_turnedY_30 : decode b_WF_turnedY 30 = .ok (.iload_n 3, 1) := by decide +kernel
theorem d_WF_turnedY_31 : decode b_WF_turnedY 31 = .ok (.iconst 1, 1) := by decide +kernel
theorem d_WF_turnedY_32 : decode b_WF_turnedY 32 = .ok (.isub, 1) := by decide +kernel
theorem d_WF_turnedY_33 : decode b_WF_turnedY 33 = .ok (.iload_n 1, 1) := by decide +kernel
theorem d_WF_turnedY_34 : decode b_WF_turnedY 34 = .ok (.isub, 1) := by decide +kernel
theorem d_WF_turnedY_35 : decode b_WF_turnedY 35 = .ok (.ireturn, 1) := by decide +kernel
theorem d_WF_turnedY_36 : decode b_WF_turnedY 36 = .ok (.iload_n 2, 1) := by decide +kernel
theorem d_WF_turnedY_37 : decode b_WF_turnedY 37 = .ok (.iconst 1, 1) := by decide +kernel
theorem d_WF_turnedY_38 : decode b_WF_turnedY 38 = .ok (.isub, 1) := by decide +kernel
theorem d_WF_turnedY_39 : decode b_WF_turnedY 39 = .ok (.iload_n 0, 1) := by decide +kernel
theorem d_WF_turnedY_40 : decode b_WF_turnedY 40 = .ok (.isub, 1) := by decide +kernel
theorem d_WF_turnedY_41 : decode b_WF_turnedY 41 = .ok (.ireturn, 1) := by decide +kernel
theorem d_WF_turnedY_42 : decode b_WF_turnedY 42 = .ok (.iload_n 1, 1) := by decide +kernel
theorem d_WF_turnedY_43 : decode b_WF_turnedY 43 = .ok (.ireturn, 1) := by decide +kernel
abbrev b_WF_forgetHistory : ByteArray := prog_1_method_22_code
theorem d_WF_forgetHistory_0 : decode b_WF_forgetHistory 0 = .ok (.aload_n 0, 1) := by decide +kernel
theorem d_WF_forgetHistory_1 : decode b_WF_forgetHistory 1 = .ok (.iconst 0, 1) := by decide +kernel
theorem d_WF_forgetHistory_2 : decode b_WF_forgetHistory 2 = .ok (.putfield 66, 3) := by decide +kernel
theorem d_WF_forgetHistory_5 : decode b_WF_forgetHistory 5 = .ok (.return_, 1) := by decide +kernel
abbrev b_WF_momentAt : ByteArray := prog_1_method_23_code
theorem d_WF_momentAt_0 : decode b_WF_momentAt 0 = .ok (.aload_n 0, 1) := by decide +kernel
theorem d_WF_momentAt_1 : decode b_WF_momentAt 1 = .ok (.getfield 62, 3) := by decide +kernel
theorem d_WF_momentAt_4 : decode b_WF_momentAt 4 = .ok (.iload_n 1, 1) := by decide +kernel
theorem d_WF_momentAt_5 : decode b_WF_momentAt 5 = .ok (.bipush 16, 2) := by decide +kernel
theorem d_WF_momentAt_7 : decode b_WF_momentAt 7 = .ok (.invokestatic 208, 3) := by decide +kernel
theorem d_WF_momentAt_10 : decode b_WF_momentAt 10 = .ok (.aaload, 1) := by decide +kernel
theorem d_WF_momentAt_11 : decode b_WF_momentAt 11 = .ok (.areturn, 1) := by decide +kernel
abbrev b_WF_makeGeneration : ByteArray := prog_1_method_24_code
theorem d_WF_makeGeneration_0 : decode b_WF_makeGeneration 0 = .ok (.aload_n 0, 1) := by decide +kernel
theorem d_WF_makeGeneration_1 : decode b_WF_makeGeneration 1 = .ok (.invokevirtual 213, 3) := by decide +kernel
theorem d_WF_makeGeneration_4 : decode b_WF_makeGeneration 4 = .ok (.iconst 0, 1) := by decide +kernel
theorem d_WF_makeGeneration_5 : decode b_WF_makeGeneration 5 = .ok (.istore_n 1, 1) := by decide +kernel
theorem d_WF_makeGeneration_6 : decode b_WF_makeGeneration 6 = .ok (.iload_n 1, 1) := by decide +kernel
theorem d_WF_makeGeneration_7 : decode b_WF_makeGeneration 7 = .ok (.aload_n 0, 1) := by decide +kernel
theorem d_WF_makeGeneration_8 : decode b_WF_makeGeneration 8 = .ok (.getfield 47, 3) := by decide +kernel
theorem d_WF_makeGeneration_11 : decode b_WF_makeGeneration 11 = .ok (.if_icmp .ge 22, 3) := by decide +kernel
theorem d_WF_makeGeneration_14 : decode b_WF_makeGeneration 14 = .ok (.aload_n 0, 1) := by decide +kernel
theorem d_WF_makeGeneration_15 : decode b_WF_makeGeneration 15 = .ok (.getfield 43, 3) := by decide +kernel
theorem d_WF_makeGeneration_18 : decode b_WF_makeGeneration 18 = .ok (.iload_n 1, 1) := by decide +kernel
theorem d_WF_makeGeneration_19 : decode b_WF_makeGeneration 19 = .ok (.aaload, 1) := by decide +kernel
theorem d_WF_makeGeneration_20 : decode b_WF_makeGeneration 20 = .ok (.aload_n 0, 1) := by decide +kernel
theorem d_WF_makeGeneration_21 : decode b_WF_makeGeneration 21 = .ok (.getfield 12, 3) := by decide +kernel
theorem d_WF_makeGeneration_24 : decode b_WF_makeGeneration 24 = .ok (.invokevirtual 216, 3) := by decide +kernel
theorem d_WF_makeGeneration_27 : decode b_WF_makeGeneration 27 = .ok (.iinc 1 1, 3) := by decide +kernel
theorem d_WF_makeGeneration_30 : decode b_WF_makeGeneration 30 = .ok (.goto (-24), 3) := by decide +kernel
theorem d_WF_makeGeneration_33 : decode b_WF_makeGeneration 33 = .ok (.aload_n 0, 1) := by decide +kernel
theorem d_WF_makeGeneration_34 : decode b_WF_makeGeneration 34 = .ok (.getfield 16, 3) := by decide +kernel
theorem d_WF_makeGeneration_37 : decode b_WF_makeGeneration 37 = .ok (.aload_n 0, 1) := by decide +kernel
theorem d_WF_makeGeneration_38 : decode b_WF_makeGeneration 38 = .ok (.getfield 12, 3) := by decide +kernel
theorem d_WF_makeGeneration_41 : decode b_WF_makeGeneration 41 = .ok (.invokevirtual 219, 3) := by decide +kernel
theorem d_WF_makeGeneration_44 : decode b_WF_makeGeneration 44 = .ok (.aload_n 0, 1) := by decide +kernel
theorem d_WF_makeGeneration_45 : decode b_WF_makeGeneration 45 = .ok (.getfield 12, 3) := by decide +kernel
theorem d_WF_makeGeneration_48 : decode b_WF_makeGeneration 48 = .ok (.aload_n 0, 1) := by decide +kernel
theorem d_WF_makeGeneration_49 : decode b_WF_makeGeneration 49 = .ok (.getfield 16, 3) := by decide +kernel
theorem d_WF_makeGeneration_52 : decode b_WF_makeGeneration 52 = .ok (.invokevirtual 122, 3) := by decide +kernel
theorem d_WF_makeGeneration_55 : decode b_WF_makeGeneration 55 = .ok (.aload_n 0, 1) := by decide +kernel
theorem d_WF_makeGeneration_56 : decode b_WF_makeGeneration 56 = .ok (.dup, 1) := by decide +kernel
theorem d_WF_makeGeneration_57 : decode b_WF_makeGeneration 57 = .ok (.getfield 69, 3) := by decide +kernel
theorem d_WF_makeGeneration_60 : decode b_WF_makeGeneration 60 = .ok (.iconst 1, 1) := by decide +kernel
theorem d_WF_makeGeneration_61 : decode b_WF_makeGeneration 61 = .ok (.iadd, 1) := by decide +kernel
theorem d_WF_makeGeneration_62 : decode b_WF_makeGeneration 62 = .ok (.putfield 69, 3) := by decide +kernel
theorem d_WF_makeGeneration_65 : decode b_WF_makeGeneration 65 = .ok (.iconst 0, 1) := by decide +kernel
theorem d_WF_makeGeneration_66 : decode b_WF_makeGeneration 66 = .ok (.istore_n 1, 1) := by decide +kernel
theorem d_WF_makeGeneration_67 : decode b_WF_makeGeneration 67 = .ok (.iload_n 1, 1) := by decide +kernel
theorem d_WF_makeGeneration_68 : decode b_WF_makeGeneration 68 = .ok (.aload_n 0, 1) := by decide +kernel
theorem d_WF_makeGeneration_69 : decode b_WF_makeGeneration 69 = .ok (.getfield 57, 3) := by decide +kernel
theorem d_WF_makeGeneration_72 : decode b_WF_makeGeneration 72 = .ok (.if_icmp .ge 26, 3) := by decide +kernel
theorem d_WF_makeGeneration_75 : decode b_WF_makeGeneration 75 = .ok (.aload_n 0, 1) := by decide +kernel
theorem d_WF_makeGeneration_76 : decode b_WF_makeGeneration 76 = .ok (.getfield 53, 3) := by decide +kernel
theorem d_WF_makeGeneration_79 : decode b_WF_makeGeneration 79 = .ok (.iload_n 1, 1) := by decide +kernel
theorem d_WF_makeGeneration_80 : decode b_WF_makeGeneration 80 = .ok (.aaload, 1) := by decide +kernel
theorem d_WF_makeGeneration_81 : decode b_WF_makeGeneration 81 = .ok (.aload_n 0, 1) := by decide +kernel
theorem d_WF_makeGeneration_82 : decode b_WF_makeGeneration 82 = .ok (.getfield 12, 3) := by decide +kernel
theorem d_WF_makeGeneration_85 : decode b_WF_makeGeneration 85 = .ok (.aload_n 0, 1) := by decide +kernel
theorem d_WF_makeGeneration_86 : decode b_WF_makeGeneration 86 = .ok (.getfield 69, 3) := by decide +kernel
theorem d_WF_makeGeneration_89 : decode b_WF_makeGeneration 89 = .ok (.invokevirtual 222, 3) := by decide +kernel
theorem d_WF_makeGeneration_92 : decode b_WF_makeGeneration 92 = .ok (.iinc 1 1, 3) := by decide +kernel
theorem d_WF_makeGeneration_95 : decode b_WF_makeGeneration 95 = .ok (.goto (-28), 3) := by decide +kernel
theorem d_WF_makeGeneration_98 : decode b_WF_makeGeneration 98 = .ok (.return_, 1) := by decide +kernel
abbrev b_WF_keepMoment : ByteArray := prog_1_method_25_code
theorem d_WF_keepMoment_0 : decode b_WF_keepMoment 0 = .ok (.aload_n 0, 1) := by decide +kernel
theorem d_WF_keepMoment_1 : decode b_WF_keepMoment 1 = .ok (.aload_n 0, 1) := by decide +kernel
theorem d_WF_keepMoment_2 : decode b_WF_keepMoment 2 = .ok (.getfield 69, 3) := by decide +kernel
theorem d_WF_keepMoment_5 : decode b_WF_keepMoment 5 = .ok (.invokevirtual 171, 3) := by decide +kernel
theorem d_WF_keepMoment_8 : decode b_WF_keepMoment 8 = .ok (.astore_n 1, 1) := by decide +kernel
theorem d_WF_keepMoment_9 : decode b_WF_keepMoment 9 = .ok (.aload_n 1, 1) := by decide +kernel
theorem d_WF_keepMoment_10 : decode b_WF_keepMoment 10 = .ok (.getfield 175, 3) := by decide +kernel
theorem d_WF_keepMoment_13 : decode b_WF_keepMoment 13 = .ok (.aload_n 0, 1) := by decide +kernel
theorem d_WF_keepMoment_14 : decode b_WF_keepMoment 14 = .ok (.getfield 12, 3) := by decide +kernel
theorem d_WF_keepMoment_17 : decode b_WF_keepMoment 17 = .ok (.invokevirtual 122, 3) := by decide +kernel
theorem d_WF_keepMoment_20 : decode b_WF_keepMoment 20 = .ok (.iconst 0, 1) := by decide +kernel
theorem d_WF_keepMoment_21 : decode b_WF_keepMoment 21 = .ok (.istore_n 2, 1) := by decide +kernel
theorem d_WF_keepMoment_22 : decode b_WF_keepMoment 22 = .ok (.iload_n 2, 1) := by decide +kernel
theorem d_WF_keepMoment_23 : decode b_WF_keepMoment 23 = .ok (.iconst 4, 1) := by decide +kernel
theorem d_WF_keepMoment_24 : decode b_WF_keepMoment 24 = .ok (.if_icmp .ge 24, 3) := by decide +kernel
theorem d_WF_keepMoment_27 : decode b_WF_keepMoment 27 = .ok (.aload_n 1, 1) := by decide +kernel
theorem d_WF_keepMoment_28 : decode b_WF_keepMoment 28 = .ok (.getfield 178, 3) := by decide +kernel
theorem d_WF_keepMoment_31 : decode b_WF_keepMoment 31 = .ok (.iload_n 2, 1) := by decide +kernel
theorem d_WF_keepMoment_32 : decode b_WF_keepMoment 32 = .ok (.aload_n 0, 1) := by decide +kernel
theorem d_WF_keepMoment_33 : decode b_WF_keepMoment 33 = .ok (.getfield 43, 3) := by decide +kernel
theorem d_WF_keepMoment_36 : decode b_WF_keepMoment 36 = .ok (.iload_n 2, 1) := by decide +kernel
theorem d_WF_keepMoment_37 : decode b_WF_keepMoment 37 = .ok (.aaload, 1) := by decide +kernel
theorem d_WF_keepMoment_38 : decode b_WF_keepMoment 38 = .ok (.getfield 182, 3) := by decide +kernel
theorem d_WF_keepMoment_41 : decode b_WF_keepMoment 41 = .ok (.iastore, 1) := by decide +kernel
theorem d_WF_keepMoment_42 : decode b_WF_keepMoment 42 = .ok (.iinc 2 1, 3) := by decide +kernel
theorem d_WF_keepMoment_45 : decode b_WF_keepMoment 45 = .ok (.goto (-23), 3) := by decide +kernel
theorem d_WF_keepMoment_48 : decode b_WF_keepMoment 48 = .ok (.aload_n 0, 1) := by decide +kernel
theorem d_WF_keepMoment_49 : decode b_WF_keepMoment 49 = .ok (.aload_n 0, 1) := by decide +kernel
theorem d_WF_keepMoment_50 : decode b_WF_keepMoment 50 = .ok (.getfield 66, 3) := by decide +kernel
theorem d_WF_keepMoment_53 : decode b_WF_keepMoment 53 = .ok (.iconst 1, 1) := by decide +kernel
theorem d_WF_keepMoment_54 : decode b_WF_keepMoment 54 = .ok (.iadd, 1) := by decide +kernel
theorem d_WF_keepMoment_55 : decode b_WF_keepMoment 55 = .ok (.bipush 16, 2) := by decide +kernel
theorem d_WF_keepMoment_57 : decode b_WF_keepMoment 57 = .ok (.invokestatic 226, 3) := by decide +kernel
theorem d_WF_keepMoment_60 : decode b_WF_keepMoment 60 = .ok (.putfield 66, 3) := by decide +kernel
theorem d_WF_keepMoment_63 : decode b_WF_keepMoment 63 = .ok (.return_, 1) := by decide +kernel
abbrev b_WF_macrosOfLineAreThere : ByteArray := prog_1_method_26_code
theorem d_WF_macrosOfLineAreThere_0 : decode b_WF_macrosOfLineAreThere 0 = .ok (.aload_n 0, 1) := by decide +kernel
theorem d_WF_macrosOfLineAreThere_1 : decode b_WF_macrosOfLineAreThere 1 = .ok (.getfield 29, 3) := by decide +kernel
theorem d_WF_macrosOfLineAreThere_4 : decode b_WF_macrosOfLineAreThere 4 = .ok (.invokevirtual 229, 3) := by decide +kernel
theorem d_WF_macrosOfLineAreThere_7 : decode b_WF_macrosOfLineAreThere 7 = .ok (.istore_n 1, 1) := by decide +kernel
theorem d_WF_macrosOfLineAreThere_8 : decode b_WF_macrosOfLineAreThere 8 = .ok (.iconst 3, 1) := by decide +kernel
theorem d_WF_macrosOfLineAreThere_9 : decode b_WF_macrosOfLineAreThere 9 = .ok (.istore_n 2, 1) := by decide +kernel
theorem d_WF_macrosOfLineAreThere_10 : decode b_WF_macrosOfLineAreThere 10 = .ok (.iload_n 2, 1) := by decide +kernel
theorem d_WF_macrosOfLineAreThere_11 : decode b_WF_macrosOfLineAreThere 11 = .ok (.ifCond .lt 41, 3) := by decide +kernel
theorem d_WF_macrosOfLineAreThere_14 : decode b_WF_macrosOfLineAreThere 14 = .ok (.iload_n 1, 1) := by decide +kernel
theorem d_WF_macrosOfLineAreThere_15 : decode b_WF_macrosOfLineAreThere 15 = .ok (.iload_n 2, 1) := by decide +kernel
theorem d_WF_macrosOfLineAreThere_16 : decode b_WF_macrosOfLineAreThere 16 = .ok (.ishr, 1) := by decide +kernel
theorem d_WF_macrosOfLineAreThere_17 : decode b_WF_macrosOfLineAreThere 17 = .ok (.iconst 1, 1) := by decide +kernel
theorem d_WF_macrosOfLineAreThere_18 : decode b_WF_macrosOfLineAreThere 18 = .ok (.iand, 1) := by decide +kernel
theorem d_WF_macrosOfLineAreThere_19 : decode b_WF_macrosOfLineAreThere 19 = .ok (.iconst 1, 1) := by decide +kernel
theorem d_WF_macrosOfLineAreThere_20 : decode b_WF_macrosOfLineAreThere 20 = .ok (.if_icmp .ne 26, 3) := by decide +kernel
theorem d_WF_macrosOfLineAreThere_23 : decode b_WF_macrosOfLineAreThere 23 = .ok (.aload_n 0, 1) := by decide +kernel
theorem d_WF_macrosOfLineAreThere_24 : decode b_WF_macrosOfLineAreThere 24 = .ok (.getfield 37, 3) := by decide +kernel
theorem d_WF_macrosOfLineAreThere_27 : decode b_WF_macrosOfLineAreThere 27 = .ok (.iload_n 2, 1) := by decide +kernel
theorem d_WF_macrosOfLineAreThere_28 : decode b_WF_macrosOfLineAreThere 28 = .ok (.baload, 1) := by decide +kernel
theorem d_WF_macrosOfLineAreThere_29 : decode b_WF_macrosOfLineAreThere 29 = .ok (.ifCond .ne 5, 3) := by decide +kernel
theorem d_WF_macrosOfLineAreThere_32 : decode b_WF_macrosOfLineAreThere 32 = .ok (.iconst 0, 1) := by decide +kernel
theorem d_WF_macrosOfLineAreThere_33 : decode b_WF_macrosOfLineAreThere 33 = .ok (.ireturn, 1) := by decide +kernel
theorem d_WF_macrosOfLineAreThere_34 : decode b_WF_macrosOfLineAreThere 34 = .ok (.iload_n 1, 1) := by decide +kernel
theorem d_WF_macrosOfLineAreThere_35 : decode b_WF_macrosOfLineAreThere 35 = .ok (.aload_n 0, 1) := by decide +kernel
theorem d_WF_macrosOfLineAreThere_36 : decode b_WF_macrosOfLineAreThere 36 = .ok (.getfield 33, 3) := by decide +kernel
theorem d_WF_macrosOfLineAreThere_39 : decode b_WF_macrosOfLineAreThere 39 = .ok (.iload_n 2, 1) := by decide +kernel
theorem d_WF_macrosOfLineAreThere_40 : decode b_WF_macrosOfLineAreThere 40 = .ok (.aaload, 1) := by decide +kernel
theorem d_WF_macrosOfLineAreThere_41 : decode b_WF_macrosOfLineAreThere 41 = .ok (.invokevirtual 229, 3) := by decide +kernel
theorem d_WF_macrosOfLineAreThere_44 : decode b_WF_macrosOfLineAreThere 44 = .ok (.ior, 1) := by decide +kernel
theorem d_WF_macrosOfLineAreThere_45 : decode b_WF_macrosOfLineAreThere 45 = .ok (.istore_n 1, 1) := by decide +kernel
theorem d_WF_macrosOfLineAreThere_46 : decode b_WF_macrosOfLineAreThere 46 = .ok (.iinc 2 (-1), 3) := by decide +kernel
theorem d_WF_macrosOfLineAreThere_49 : decode b_WF_macrosOfLineAreThere 49 = .ok (.goto (-39), 3) := by decide +kernel
theorem d_WF_macrosOfLineAreThere_52 : decode b_WF_macrosOfLineAreThere 52 = .ok (.iconst 1, 1) := by decide +kernel
theorem d_WF_macrosOfLineAreThere_53 : decode b_WF_macrosOfLineAreThere 53 = .ok (.ireturn, 1) := by decide +kernel
abbrev b_WF_perform : ByteArray := prog_1_method_27_code
theorem d_WF_perform_0 : decode b_WF_perform 0 = .ok (.iload 4, 2) := by decide +kernel
theorem d_WF_perform_2 : decode b_WF_perform 2 = .ok (.bipush 20, 2) := by decide +kernel
theorem d_WF_perform_4 : decode b_WF_perform 4 = .ok (.if_icmp .le 5, 3) := by decide +kernel
theorem d_WF_perform_7 : decode b_WF_perform 7 = .ok (.iconst 0, 1) := by decide +kernel
theorem d_WF_perform_8 : decode b_WF_perform 8 = .ok (.ireturn, 1) := by decide +kernel
theorem d_WF_perform_9 : decode b_WF_perform 9 = .ok (.iload_n 2, 1) := by decide +kernel
theorem d_WF_perform_10 : decode b_WF_perform 10 = .ok (.istore 5, 2) := by decide +kernel
theorem d_WF_perform_12 : decode b_WF_perform 12 = .ok (.iconst 0, 1) := by decide +kernel
theorem d_WF_perform_13 : decode b_WF_perform 13 = .ok (.istore 6, 2) := by decide +kernel
theorem d_WF_perform_15 : decode b_WF_perform 15 = .ok (.iload 6, 2) := by decide +kernel
theorem d_WF_perform_17 : decode b_WF_perform 17 = .ok (.bipush 60, 2) := by decide +kernel
theorem d_WF_perform_19 : decode b_WF_perform 19 = .ok (.if_icmp .ge 85, 3) := by decide +kernel
theorem d_WF_perform_22 : decode b_WF_perform 22 = .ok (.iload 5, 2) := by decide +kernel
theorem d_WF_perform_24 : decode b_WF_perform 24 = .ok (.iload_n 3, 1) := by decide +kernel
theorem d_WF_perform_25 : decode b_WF_perform 25 = .ok (.if_icmp .ge 79, 3) := by decide +kernel
theorem d_WF_perform_28 : decode b_WF_perform 28 = .ok (.aload_n 1, 1) := by decide +kernel
theorem d_WF_perform_29 : decode b_WF_perform 29 = .ok (.iload 5, 2) := by decide +kernel
theorem d_WF_perform_31 : decode b_WF_perform 31 = .ok (.invokevirtual 233, 3) := by decide +kernel
theorem d_WF_perform_34 : decode b_WF_perform 34 = .ok (.istore 7, 2) := by decide +kernel
theorem d_WF_perform_36 : decode b_WF_perform 36 = .ok (.iload 5, 2) := by decide +kernel
theorem d_WF_perform_38 : decode b_WF_perform 38 = .ok (.aload_n 1, 1) := by decide +kernel
theorem d_WF_perform_39 : decode b_WF_perform 39 = .ok (.iload 5, 2) := by decide +kernel
theorem d_WF_perform_41 : decode b_WF_perform 41 = .ok (.invokevirtual 236, 3) := by decide +kernel
theorem d_WF_perform_44 : decode b_WF_perform 44 = .ok (.iadd, 1) := by decide +kernel
theorem d_WF_perform_45 : decode b_WF_perform 45 = .ok (.istore 8, 2) := by decide +kernel
theorem d_WF_perform_47 : decode b_WF_perform 47 = .ok (.aload_n 1, 1) := by decide +kernel
theorem d_WF_perform_48 : decode b_WF_perform 48 = .ok (.iload 8, 2) := by decide +kernel
theorem d_WF_perform_50 : decode b_WF_perform 50 = .ok (.invokevirtual 239, 3) := by decide +kernel
theorem d_WF_perform_53 : decode b_WF_perform 53 = .ok (.istore 9, 2) := by decide +kernel
theorem d_WF_perform_55 : decode b_WF_perform 55 = .ok (.iload 9, 2) := by decide +kernel
theorem d_WF_perform_57 : decode b_WF_perform 57 = .ok (.ifCond .ge 5, 3) := by decide +kernel
theorem d_WF_perform_60 : decode b_WF_perform 60 = .ok (.iconst 0, 1) := by decide +kernel
theorem d_WF_perform_61 : decode b_WF_perform 61 = .ok (.ireturn, 1) := by decide +kernel
theorem d_WF_perform_62 : decode b_WF_perform 62 = .ok (.iconst 0, 1) := by decide +kernel
theorem d_WF_perform_63 : decode b_WF_perform 63 = .ok (.istore 10, 2) := by decide +kernel
theorem d_WF_perform_65 : decode b_WF_perform 65 = .ok (.iload 10, 2) := by decide +kernel
theorem d_WF_perform_67 : decode b_WF_perform 67 = .ok (.iload 7, 2) := by decide +kernel
theorem d_WF_perform_69 : decode b_WF_perform 69 = .ok (.if_icmp .ge 25, 3) := by decide +kernel
theorem d_WF_perform_72 : decode b_WF_perform 72 = .ok (.aload_n 0, 1) := by decide +kernel
theorem d_WF_perform_73 : decode b_WF_perform 73 = .ok (.aload_n 1, 1) := by decide +kernel
theorem d_WF_perform_74 : decode b_WF_perform 74 = .ok (.iload 8, 2) := by decide +kernel
theorem d_WF_perform_76 : decode b_WF_perform 76 = .ok (.iload 9, 2) := by decide +kernel
theorem d_WF_perform_78 : decode b_WF_perform 78 = .ok (.iload 4, 2) := by decide +kernel
theorem d_WF_perform_80 : decode b_WF_perform 80 = .ok (.invokevirtual 242, 3) := by decide +kernel
theorem d_WF_perform_83 : decode b_WF_perform 83 = .ok (.ifCond .ne 5, 3) := by decide +kernel
theorem d_WF_perform_86 : decode b_WF_perform 86 = .ok (.iconst 0, 1) := by decide +kernel
theorem d_WF_perform_87 : decode b_WF_perform 87 = .ok (.ireturn, 1) := by decide +kernel
theorem d_WF_perform_88 : decode b_WF_perform 88 = .ok (.iinc 10 1, 3) := by decide +kernel
theorem d_WF_perform_91 : decode b_WF_perform 91 = .ok (.goto (-26), 3) := by decide +kernel
theorem d_WF_perform_94 : decode b_WF_perform 94 = .ok (.iload 9, 2) := by decide +kernel
theorem d_WF_perform_96 : decode b_WF_perform 96 = .ok (.istore 5, 2) := by decide +kernel
theorem d_WF_perform_98 : decode b_WF_perform 98 = .ok (.iinc 6 1, 3) := by decide +kernel
theorem d_WF_perform_101 : decode b_WF_perform 101 = .ok (.goto (-86), 3) := by decide +kernel
theorem d_WF_perform_104 : decode b_WF_perform 104 = .ok (.iconst 1, 1) := by decide +kernel
theorem d_WF_perform_105 : decode b_WF_perform 105 = .ok (.ireturn, 1) := by decide +kernel
abbrev b_WF_performOrder : ByteArray := prog_1_method_28_code
theorem d_WF_performOrder_0 : decode b_WF_performOrder 0 = .ok (.aload_n 0, 1) := by decide +kernel
theorem d_WF_performOrder_1 : decode b_WF_performOrder 1 = .ok (.getfield 22, 3) := by decide +kernel
theorem d_WF_performOrder_4 : decode b_WF_performOrder 4 = .ok (.invokevirtual 245, 3) := by decide +kernel
theorem d_WF_performOrder_7 : decode b_WF_performOrder 7 = .ok (.ifCond .ne 5, 3) := by decide +kernel
theorem d_WF_performOrder_10 : decode b_WF_performOrder 10 = .ok (.iconst 0, 1) := by decide +kernel
theorem d_WF_performOrder_11 : decode b_WF_performOrder 11 = .ok (.ireturn, 1) := by decide +kernel
theorem d_WF_performOrder_12 : decode b_WF_performOrder 12 = .ok (.aload_n 1, 1) := by decide +kernel
theorem d_WF_performOrder_13 : decode b_WF_performOrder 13 = .ok (.iload_n 2, 1) := by decide +kernel
theorem d_WF_performOrder_14 : decode b_WF_performOrder 14 = .ok (.invokevirtual 248, 3) := by decide +kernel
theorem d_WF_performOrder_17 : decode b_WF_performOrder 17 = .ok (.lookupswitch 86 #[(40, 35), (64, 67), (91, 51)], 35) := by decide +kernel
theorem d_WF_performOrder_52 : decode b_WF_performOrder 52 = .ok (.aload_n 0, 1) := by decide +kernel
theorem d_WF_performOrder_53 : decode b_WF_performOrder 53 = .ok (.aload_n 1, 1) := by decide +kernel
theorem d_WF_performOrder_54 : decode b_WF_performOrder 54 = .ok (.iload_n 2, 1) := by decide +kernel
theorem d_WF_performOrder_55 : decode b_WF_performOrder 55 = .ok (.iconst 1, 1) := by decide +kernel
theorem d_WF_performOrder_56 : decode b_WF_performOrder 56 = .ok (.iadd, 1) := by decide +kernel
theorem d_WF_performOrder_57 : decode b_WF_performOrder 57 = .ok (.iload_n 3, 1) := by decide +kernel
theorem d_WF_performOrder_58 : decode b_WF_performOrder 58 = .ok (.iconst 1, 1) := by decide +kernel
theorem d_WF_performOrder_59 : decode b_WF_performOrder 59 = .ok (.isub, 1) := by decide +kernel
theorem d_WF_performOrder_60 : decode b_WF_performOrder 60 = .ok (.iload 4, 2) := by decide +kernel
theorem d_WF_performOrder_62 : decode b_WF_performOrder 62 = .ok (.iconst 1, 1) := by decide +kernel
theorem d_WF_performOrder_63 : decode b_WF_performOrder 63 = .ok (.iadd, 1) := by decide +kernel
theorem d_WF_performOrder_64 : decode b_WF_performOrder 64 = .ok (.invokevirtual 252, 3) := by decide +kernel
theorem d_WF_performOrder_67 : decode b_WF_performOrder 67 = .ok (.ireturn, 1) := by decide +kernel
theorem d_WF_performOrder_68 : decode b_WF_performOrder 68 = .ok (.aload_n 0, 1) := by decide +kernel
theorem d_WF_performOrder_69 : decode b_WF_performOrder 69 = .ok (.aload_n 1, 1) := by decide +kernel
theorem d_WF_performOrder_70 : decode b_WF_performOrder 70 = .ok (.iload_n 2, 1) := by decide +kernel
theorem d_WF_performOrder_71 : decode b_WF_performOrder 71 = .ok (.iconst 1, 1) := by decide +kernel
theorem d_WF_performOrder_72 : decode b_WF_performOrder 72 = .ok (.iadd, 1) := by decide +kernel
theorem d_WF_performOrder_73 : decode b_WF_performOrder 73 = .ok (.iload_n 3, 1) := by decide +kernel
theorem d_WF_performOrder_74 : decode b_WF_performOrder 74 = .ok (.iconst 1, 1) := by decide +kernel
theorem d_WF_performOrder_75 : decode b_WF_performOrder 75 = .ok (.isub, 1) := by decide +kernel
theorem d_WF_performOrder_76 : decode b_WF_performOrder 76 = .ok (.iload 4, 2) := by decide +kernel
theorem d_WF_performOrder_78 : decode b_WF_performOrder 78 = .ok (.iconst 1, 1) := by decide +kernel
theorem d_WF_performOrder_79 : decode b_WF_performOrder 79 = .ok (.iadd, 1) := by decide +kernel
theorem d_WF_performOrder_80 : decode b_WF_performOrder 80 = .ok (.invokevirtual 110, 3) := by decide +kernel
theorem d_WF_performOrder_83 : decode b_WF_performOrder 83 = .ok (.ireturn, 1) := by decide +kernel
theorem d_WF_performOrder_84 : decode b_WF_performOrder 84 = .ok (.aload_n 0, 1) := by decide +kernel
theorem d_WF_performOrder_85 : decode b_WF_performOrder 85 = .ok (.aload_n 1, 1) := by decide +kernel
theorem d_WF_performOrder_86 : decode b_WF_performOrder 86 = .ok (.iload_n 2, 1) := by decide +kernel
theorem d_WF_performOrder_87 : decode b_WF_performOrder 87 = .ok (.iconst 1, 1) := by decide +kernel
theorem d_WF_performOrder_88 : decode b_WF_performOrder 88 = .ok (.iadd, 1) := by decide +kernel
theorem d_WF_performOrder_89 : decode b_WF_performOrder 89 = .ok (.invokevirtual 248, 3) := by decide +kernel
theorem d_WF_performOrder_92 : decode b_WF_performOrder 92 = .ok (.bipush 97, 2) := by decide +kernel
theorem d_WF_performOrder_94 : decode b_WF_performOrder 94 = .ok (.isub, 1) := by decide +kernel
theorem d_WF_performOrder_95 : decode b_WF_performOrder 95 = .ok (.iload 4, 2) := by decide +kernel
theorem d_WF_performOrder_97 : decode b_WF_performOrder 97 = .ok (.iconst 1, 1) := by decide +kernel
theorem d_WF_performOrder_98 : decode b_WF_performOrder 98 = .ok (.iadd, 1) := by decide +kernel
theorem d_WF_performOrder_99 : decode b_WF_performOrder 99 = .ok (.invokevirtual 255, 3) := by decide +kernel
theorem d_WF_performOrder_102 : decode b_WF_performOrder 102 = .ok (.ireturn, 1) := by decide +kernel
theorem d_WF_performOrder_103 : decode b_WF_performOrder 103 = .ok (.aload_n 0, 1) := by decide +kernel
theorem d_WF_performOrder_104 : decode b_WF_performOrder 104 = .ok (.getfield 22, 3) := by decide +kernel
theorem d_WF_performOrder_107 : decode b_WF_performOrder 107 = .ok (.aload_n 1, 1) := by decide +kernel
theorem d_WF_performOrder_108 : decode b_WF_performOrder 108 = .ok (.iload_n 2, 1) := by decide +kernel
theorem d_WF_performOrder_109 : decode b_WF_performOrder 109 = .ok (.invokevirtual 248, 3) := by decide +kernel
theorem d_WF_performOrder_112 : decode b_WF_performOrder 112 = .ok (.invokevirtual 258, 3) := by decide +kernel
theorem d_WF_performOrder_115 : decode b_WF_performOrder 115 = .ok (.ireturn, 1) := by decide +kernel
abbrev b_WF_performBranch : ByteArray := prog_1_method_29_code
theorem d_WF_performBranch_0 : decode b_WF_performBranch 0 = .ok (.aload_n 0, 1) := by decide +kernel
theorem d_WF_performBranch_1 : decode b_WF_performBranch 1 = .ok (.getfield 22, 3) := by decide +kernel
theorem d_WF_performBranch_4 : decode b_WF_performBranch 4 = .ok (.getfield 261, 3) := by decide +kernel
theorem d_WF_performBranch_7 : decode b_WF_performBranch 7 = .ok (.istore 5, 2) := by decide +kernel
theorem d_WF_performBranch_9 : decode b_WF_performBranch 9 = .ok (.aload_n 0, 1) := by decide +kernel
theorem d_WF_performBranch_10 : decode b_WF_performBranch 10 = .ok (.getfield 22, 3) := by decide +kernel
theorem d_WF_performBranch_13 : decode b_WF_performBranch 13 = .ok (.getfield 264, 3) := by decide +kernel
theorem d_WF_performBranch_16 : decode b_WF_performBranch 16 = .ok (.istore 6, 2) := by decide +kernel
theorem d_WF_performBranch_18 : decode b_WF_performBranch 18 = .ok (.aload_n 0, 1) := by decide +kernel
theorem d_WF_performBranch_19 : decode b_WF_performBranch 19 = .ok (.getfield 22, 3) := by decide +kernel
theorem d_WF_performBranch_22 : decode b_WF_performBranch 22 = .ok (.getfield 267, 3) := by decide +kernel
theorem d_WF_performBranch_25 : decode b_WF_performBranch 25 = .ok (.istore 7, 2) := by decide +kernel
theorem d_WF_performBranch_27 : decode b_WF_performBranch 27 = .ok (.aload_n 0, 1) := by decide +kernel
theorem d_WF_performBranch_28 : decode b_WF_performBranch 28 = .ok (.getfield 22, 3) := by decide +kernel
theorem d_WF_performBranch_31 : decode b_WF_performBranch 31 = .ok (.getfield 270, 3) := by decide +kernel
theorem d_WF_performBranch_34 : decode b_WF_performBranch 34 = .ok (.istore 8, 2) := by decide +kernel
theorem d_WF_performBranch_36 : decode b_WF_performBranch 36 = .ok (.aload_n 0, 1) := by decide +kernel
theorem d_WF_performBranch_37 : decode b_WF_performBranch 37 = .ok (.aload_n 1, 1) := by decide +kernel
theorem d_WF_performBranch_38 : decode b_WF_performBranch 38 = .ok (.iload_n 2, 1) := by decide +kernel
theorem d_WF_performBranch_39 : decode b_WF_performBranch 39 = .ok (.iload_n 3, 1) := by decide +kernel
theorem d_WF_performBranch_40 : decode b_WF_performBranch 40 = .ok (.iload 4, 2) := by decide +kernel
theorem d_WF_performBranch_42 : decode b_WF_performBranch 42 = .ok (.invokevirtual 110, 3) := by decide +kernel
theorem d_WF_performBranch_45 : decode b_WF_performBranch 45 = .ok (.istore 9, 2) := by decide +kernel
theorem d_WF_performBranch_47 : decode b_WF_performBranch 47 = .ok (.aload_n 0, 1) := by decide +kernel
theorem d_WF_performBranch_48 : decode b_WF_performBranch 48 = .ok (.getfield 22, 3) := by decide +kernel
theorem d_WF_performBranch_51 : decode b_WF_performBranch 51 = .ok (.iload 5, 2) := by decide +kernel
theorem d_WF_performBranch_53 : decode b_WF_performBranch 53 = .ok (.putfield 261, 3) := by decide +kernel
theorem d_WF_performBranch_56 : decode b_WF_performBranch 56 = .ok (.aload_n 0, 1) := by decide +kernel
theorem d_WF_performBranch_57 : decode b_WF_performBranch 57 = .ok (.getfield 22, 3) := by decide +kernel
theorem d_WF_performBranch_60 : decode b_WF_performBranch 60 = .ok (.iload 6, 2) := by decide +kernel
theorem d_WF_performBranch_62 : decode b_WF_performBranch 62 = .ok (.putfield 264, 3) := by decide +kernel
theorem d_WF_performBranch_65 : decode b_WF_performBranch 65 = .ok (.aload_n 0, 1) := by decide +kernel
theorem d_WF_performBranch_66 : decode b_WF_performBranch 66 = .ok (.getfield 22, 3) := by decide +kernel
theorem d_WF_performBranch_69 : decode b_WF_performBranch 69 = .ok (.iload 7, 2) := by decide +kernel
theorem d_WF_performBranch_71 : decode b_WF_performBranch 71 = .ok (.putfield 267, 3) := by decide +kernel
theorem d_WF_performBranch_74 : decode b_WF_performBranch 74 = .ok (.aload_n 0, 1) := by decide +kernel
theorem d_WF_performBranch_75 : decode b_WF_performBranch 75 = .ok (.getfield 22, 3) := by decide +kernel
theorem d_WF_performBranch_78 : decode b_WF_performBranch 78 = .ok (.iload 8, 2) := by decide +kernel
theorem d_WF_performBranch_80 : decode b_WF_performBranch 80 = .ok (.putfield 270, 3) := by decide +kernel
theorem d_WF_performBranch_83 : decode b_WF_performBranch 83 = .ok (.iload 9, 2) := by decide +kernel
theorem d_WF_performBranch_85 : decode b_WF_performBranch 85 = .ok (.ireturn, 1) := by decide +kernel
abbrev b_WF_performMacro : ByteArray := prog_1_method_30_code
theorem d_WF_performMacro_0 : decode b_WF_performMacro 0 = .ok (.iload_n 1, 1) := by decide +kernel
theorem d_WF_performMacro_1 : decode b_WF_performMacro 1 = .ok (.ifCond .lt 8, 3) := by decide +kernel
theorem d_WF_performMacro_4 : decode b_WF_performMacro 4 = .ok (.iload_n 1, 1) := by decide +kernel
theorem d_WF_performMacro_5 : decode b_WF_performMacro 5 = .ok (.iconst 4, 1) := by decide +kernel
theorem d_WF_performMacro_6 : decode b_WF_performMacro 6 = .ok (.if_icmp .lt 5, 3) := by decide +kernel
theorem d_WF_performMacro_9 : decode b_WF_performMacro 9 = .ok (.iconst 0, 1) := by decide +kernel
theorem d_WF_performMacro_10 : decode b_WF_performMacro 10 = .ok (.ireturn, 1) := by decide +kernel
theorem d_WF_performMacro_11 : decode b_WF_performMacro 11 = .ok (.aload_n 0, 1) := by decide +kernel
theorem d_WF_performMacro_12 : decode b_WF_performMacro 12 = .ok (.aload_n 0, 1) := by decide +kernel
theorem d_WF_performMacro_13 : decode b_WF_performMacro 13 = .ok (.getfield 33, 3) := by decide +kernel
theorem d_WF_performMacro_16 : decode b_WF_performMacro 16 = .ok (.iload_n 1, 1) := by decide +kernel
theorem d_WF_performMacro_17 : decode b_WF_performMacro 17 = .ok (.aaload, 1) := by decide +kernel
theorem d_WF_performMacro_18 : decode b_WF_performMacro 18 = .ok (.iconst 0, 1) := by decide +kernel
theorem d_WF_performMacro_19 : decode b_WF_performMacro 19 = .ok (.aload_n 0, 1) := by decide +kernel
theorem d_WF_performMacro_20 : decode b_WF_performMacro 20 = .ok (.getfield 33, 3) := by decide +kernel
theorem d_WF_performMacro_23 : decode b_WF_performMacro 23 = .ok (.iload_n 1, 1) := by decide +kernel
theorem d_WF_performMacro_24 : decode b_WF_performMacro 24 = .ok (.aaload, 1) := by decide +kernel
theorem d_WF_performMacro_25 : decode b_WF_performMacro 25 = .ok (.getfield 107, 3) := by decide +kernel
theorem d_WF_performMacro_28 : decode b_WF_performMacro 28 = .ok (.iload_n 2, 1) := by decide +kernel
theorem d_WF_performMacro_29 : decode b_WF_performMacro 29 = .ok (.invokevirtual 110, 3) := by decide +kernel
theorem d_WF_performMacro_32 : decode b_WF_performMacro 32 = .ok (.ireturn, 1) := by decide +kernel
end
section
abbrev b_M_init : ByteArray := prog_9_method_1_code
theorem d_M_init_0 : decode b_M_init 0 = .ok (.aload_n 0, 1) := by decide +kernel
theorem d_M_init_1 : decode b_M_init 1 = .ok (.invokespecial 1, 3) := by decide +kernel
theorem d_M_init_4 : decode b_M_init 4 = .ok (.aload_n 0, 1) := by decide +kernel
theorem d_M_init_5 : decode b_M_init 5 = .ok (.bipush 24, 2) := by decide +kernel
theorem d_M_init_7 : decode b_M_init 7 = .ok (.newarray .int, 2) := by decide +kernel
theorem d_M_init_9 : decode b_M_init 9 = .ok (.putfield 7, 3) := by decide +kernel
theorem d_M_init_12 : decode b_M_init 12 = .ok (.aload_n 0, 1) := by decide +kernel
theorem d_M_init_13 : decode b_M_init 13 = .ok (.bipush 24, 2) := by decide +kernel
theorem d_M_init_15 : decode b_M_init 15 = .ok (.newarray .int, 2) := by decide +kernel
theorem d_M_init_17 : decode b_M_init 17 = .ok (.putfield 13, 3) := by decide +kernel
theorem d_M_init_20 : decode b_M_init 20 = .ok (.aload_n 0, 1) := by decide +kernel
theorem d_M_init_21 : decode b_M_init 21 = .ok (.bipush 24, 2) := by decide +kernel
theorem d_M_init_23 : decode b_M_init 23 = .ok (.newarray .int, 2) := by decide +kernel
theorem d_M_init_25 : decode b_M_init 25 = .ok (.putfield 16, 3) := by decide +kernel
theorem d_M_init_28 : decode b_M_init 28 = .ok (.aload_n 0, 1) := by decide +kernel
theorem d_M_init_29 : decode b_M_init 29 = .ok (.bipush 24, 2) := by decide +kernel
theorem d_M_init_31 : decode b_M_init 31 = .ok (.newarray .int, 2) := by decide +kernel
theorem d_M_init_33 : decode b_M_init 33 = .ok (.putfield 19, 3) := by decide +kernel
theorem d_M_init_36 : decode b_M_init 36 = .ok (.aload_n 0, 1) := by decide +kernel
theorem d_M_init_37 : decode b_M_init 37 = .ok (.sipush 1152, 3) := by decide +kernel
theorem d_M_init_40 : decode b_M_init 40 = .ok (.newarray .int, 2) := by decide +kernel
theorem d_M_init_42 : decode b_M_init 42 = .ok (.putfield 22, 3) := by decide +kernel
theorem d_M_init_45 : decode b_M_init 45 = .ok (.aload_n 0, 1) := by decide +kernel
theorem d_M_init_46 : decode b_M_init 46 = .ok (.bipush 64, 2) := by decide +kernel
theorem d_M_init_48 : decode b_M_init 48 = .ok (.newarray .int, 2) := by decide +kernel
theorem d_M_init_50 : decode b_M_init 50 = .ok (.putfield 25, 3) := by decide +kernel
theorem d_M_init_53 : decode b_M_init 53 = .ok (.aload_n 0, 1) := by decide +kernel
theorem d_M_init_54 : decode b_M_init 54 = .ok (.iconst 4, 1) := by decide +kernel
theorem d_M_init_55 : decode b_M_init 55 = .ok (.newarray .int, 2) := by decide +kernel
theorem d_M_init_57 : decode b_M_init 57 = .ok (.putfield 28, 3) := by decide +kernel
theorem d_M_init_60 : decode b_M_init 60 = .ok (.aload_n 0, 1) := by decide +kernel
theorem d_M_init_61 : decode b_M_init 61 = .ok (.iconst 4, 1) := by decide +kernel
theorem d_M_init_62 : decode b_M_init 62 = .ok (.newarray .int, 2) := by decide +kernel
theorem d_M_init_64 : decode b_M_init 64 = .ok (.putfield 31, 3) := by decide +kernel
theorem d_M_init_67 : decode b_M_init 67 = .ok (.aload_n 0, 1) := by decide +kernel
theorem d_M_init_68 : decode b_M_init 68 = .ok (.iconst 4, 1) := by decide +kernel
theorem d_M_init_69 : decode b_M_init 69 = .ok (.newarray .long, 2) := by decide +kernel
theorem d_M_init_71 : decode b_M_init 71 = .ok (.putfield 34, 3) := by decide +kernel
theorem d_M_init_74 : decode b_M_init 74 = .ok (.aload_n 0, 1) := by decide +kernel
theorem d_M_init_75 : decode b_M_init 75 = .ok (.iconst 4, 1) := by decide +kernel
theorem d_M_init_76 : decode b_M_init 76 = .ok (.newarray .int, 2) := by decide +kernel
theorem d_M_init_78 : decode b_M_init 78 = .ok (.putfield 38, 3) := by decide +kernel
theorem d_M_init_81 : decode b_M_init 81 = .ok (.aload_n 0, 1) := by decide +kernel
theorem d_M_init_82 : decode b_M_init 82 = .ok (.iconst 4, 1) := by decide +kernel
theorem d_M_init_83 : decode b_M_init 83 = .ok (.newarray .int, 2) := by decide +kernel
theorem d_M_init_85 : decode b_M_init 85 = .ok (.putfield 41, 3) := by decide +kernel
theorem d_M_init_88 : decode b_M_init 88 = .ok (.aload_n 0, 1) := by decide +kernel
theorem d_M_init_89 : decode b_M_init 89 = .ok (.iconst 4, 1) := by decide +kernel
theorem d_M_init_90 : decode b_M_init 90 = .ok (.newarray .int, 2) := by decide +kernel
theorem d_M_init_92 : decode b_M_init 92 = .ok (.putfield 44, 3) := by decide +kernel
theorem d_M_init_95 : decode b_M_init 95 = .ok (.aload_n 0, 1) := by decide +kernel
theorem d_M_init_96 : decode b_M_init 96 = .ok (.iconst 4, 1) := by decide +kernel
theorem d_M_init_97 : decode b_M_init 97 = .ok (.newarray .int, 2) := by decide +kernel
theorem d_M_init_99 : decode b_M_init 99 = .ok (.putfield 47, 3) := by decide +kernel
theorem d_M_init_102 : decode b_M_init 102 = .ok (.aload_n 0, 1) := by decide +kernel
theorem d_M_init_103 : decode b_M_init 103 = .ok (.iconst 4, 1) := by decide +kernel
theorem d_M_init_104 : decode b_M_init 104 = .ok (.newarray .int, 2) := by decide +kernel
theorem d_M_init_106 : decode b_M_init 106 = .ok (.putfield 50, 3) := by decide +kernel
theorem d_M_init_109 : decode b_M_init 109 = .ok (.aload_n 0, 1) := by decide +kernel
theorem d_M_init_110 : decode b_M_init 110 = .ok (.iconst 4, 1) := by decide +kernel
theorem d_M_init_111 : decode b_M_init 111 = .ok (.newarray .int, 2) := by decide +kernel
theorem d_M_init_113 : decode b_M_init 113 = .ok (.putfield 53, 3) := by decide +kernel
theorem d_M_init_116 : decode b_M_init 116 = .ok (.aload_n 0, 1) := by decide +kernel
theorem d_M_init_117 : decode b_M_init 117 = .ok (.iconst 4, 1) := by decide +kernel
theorem d_M_init_118 : decode b_M_init 118 = .ok (.newarray .long, 2) := by decide +kernel
theorem d_M_init_120 : decode b_M_init 120 = .ok (.putfield 56, 3) := by decide +kernel
theorem d_M_init_123 : decode b_M_init 123 = .ok (.aload_n 0, 1) := by decide +kernel
theorem d_M_init_124 : decode b_M_init 124 = .ok (.sipush 300, 3) := by decide +kernel
theorem d_M_init_127 : decode b_M_init 127 = .ok (.newarray .int, 2) := by decide +kernel
theorem d_M_init_129 : decode b_M_init 129 = .ok (.putfield 59, 3) := by decide +kernel
theorem d_M_init_132 : decode b_M_init 132 = .ok (.aload_n 0, 1) := by decide +kernel
theorem d_M_init_133 : decode b_M_init 133 = .ok (.iconst 5, 1) := by decide +kernel
theorem d_M_init_134 : decode b_M_init 134 = .ok (.newarray .int, 2) := by decide +kernel
theorem d_M_init_136 : decode b_M_init 136 = .ok (.putfield 62, 3) := by decide +kernel
theorem d_M_init_139 : decode b_M_init 139 = .ok (.aload_n 0, 1) := by decide +kernel
theorem d_M_init_140 : decode b_M_init 140 = .ok (.iconst 5, 1) := by decide +kernel
theorem d_M_init_141 : decode b_M_init 141 = .ok (.newarray .int, 2) := by decide +kernel
theorem d_M_init_143 : decode b_M_init 143 = .ok (.putfield 65, 3) := by decide +kernel
theorem d_M_init_146 : decode b_M_init 146 = .ok (.aload_n 0, 1) := by decide +kernel
theorem d_M_init_147 : decode b_M_init 147 = .ok (.bipush 24, 2) := by decide +kernel
theorem d_M_init_149 : decode b_M_init 149 = .ok (.newarray .int, 2) := by decide +kernel
theorem d_M_init_151 : decode b_M_init 151 = .ok (.putfield 68, 3) := by decide +kernel
theorem d_M_init_154 : decode b_M_init 154 = .ok (.aload_n 0, 1) := by decide +kernel
theorem d_M_init_155 : decode b_M_init 155 = .ok (.bipush 24, 2) := by decide +kernel
theorem d_M_init_157 : decode b_M_init 157 = .ok (.newarray .int, 2) := by decide +kernel
theorem d_M_init_159 : decode b_M_init 159 = .ok (.putfield 71, 3) := by decide +kernel
theorem d_M_init_162 : decode b_M_init 162 = .ok (.aload_n 0, 1) := by decide +kernel
theorem d_M_init_163 : decode b_M_init 163 = .ok (.bipush 24, 2) := by decide +kernel
theorem d_M_init_165 : decode b_M_init 165 = .ok (.newarray .int, 2) := by decide +kernel
theorem d_M_init_167 : decode b_M_init 167 = .ok (.putfield 74, 3) := by decide +kernel
theorem d_M_init_170 : decode b_M_init 170 = .ok (.aload_n 0, 1) := by decide +kernel
theorem d_M_init_171 : decode b_M_init 171 = .ok (.bipush 32, 2) := by decide +kernel
theorem d_M_init_173 : decode b_M_init 173 = .ok (.newarray .int, 2) := by decide +kernel
theorem d_M_init_175 : decode b_M_init 175 = .ok (.putfield 77, 3) := by decide +kernel
theorem d_M_init_178 : decode b_M_init 178 = .ok (.aload_n 0, 1) := by decide +kernel
theorem d_M_init_179 : decode b_M_init 179 = .ok (.bipush 32, 2) := by decide +kernel
theorem d_M_init_181 : decode b_M_init 181 = .ok (.newarray .int, 2) := by decide +kernel
theorem d_M_init_183 : decode b_M_init 183 = .ok (.putfield 80, 3) := by decide +kernel
theorem d_M_init_186 : decode b_M_init 186 = .ok (.aload_n 0, 1) := by decide +kernel
theorem d_M_init_187 : decode b_M_init 187 = .ok (.bipush 32, 2) := by decide +kernel
theorem d_M_init_189 : decode b_M_init 189 = .ok (.newarray .int, 2) := by decide +kernel
theorem d_M_init_191 : decode b_M_init 191 = .ok (.putfield 83, 3) := by decide +kernel
theorem d_M_init_194 : decode b_M_init 194 = .ok (.aload_n 0, 1) := by decide +kernel
theorem d_M_init_195 : decode b_M_init 195 = .ok (.bipush 32, 2) := by decide +kernel
theorem d_M_init_197 : decode b_M_init 197 = .ok (.newarray .int, 2) := by decide +kernel
theorem d_M_init_199 : decode b_M_init 199 = .ok (.putfield 86, 3) := by decide +kernel
theorem d_M_init_202 : decode b_M_init 202 = .ok (.aload_n 0, 1) := by decide +kernel
theorem d_M_init_203 : decode b_M_init 203 = .ok (.bipush 32, 2) := by decide +kernel
theorem d_M_init_205 : decode b_M_init 205 = .ok (.newarray .int, 2) := by decide +kernel
theorem d_M_init_207 : decode b_M_init 207 = .ok (.putfield 89, 3) := by decide +kernel
theorem d_M_init_210 : decode b_M_init 210 = .ok (.aload_n 0, 1) := by decide +kernel
theorem d_M_init_211 : decode b_M_init 211 = .ok (.bipush 32, 2) := by decide +kernel
theorem d_M_init_213 : decode b_M_init 213 = .ok (.newarray .int, 2) := by decide +kernel
theorem d_M_init_215 : decode b_M_init 215 = .ok (.putfield 92, 3) := by decide +kernel
theorem d_M_init_218 : decode b_M_init 218 = .ok (.aload_n 0, 1) := by decide +kernel
theorem d_M_init_219 : decode b_M_init 219 = .ok (.bipush 32, 2) := by decide +kernel
theorem d_M_init_221 : decode b_M_init 221 = .ok (.newarray .int, 2) := by decide +kernel
theorem d_M_init_223 : decode b_M_init 223 = .ok (.putfield 95, 3) := by decide +kernel
theorem d_M_init_226 : decode b_M_init 226 = .ok (.aload_n 0, 1) := by decide +kernel
theorem d_M_init_227 : decode b_M_init 227 = .ok (.bipush 32, 2) := by decide +kernel
theorem d_M_init_229 : decode b_M_init 229 = .ok (.newarray .boolean, 2) := by decide +kernel
theorem d_M_init_231 : decode b_M_init 231 = .ok (.putfield 98, 3) := by decide +kernel
theorem d_M_init_234 : decode b_M_init 234 = .ok (.iconst 0, 1) := by decide +kernel
theorem d_M_init_235 : decode b_M_init 235 = .ok (.istore_n 1, 1) := by decide +kernel
theorem d_M_init_236 : decode b_M_init 236 = .ok (.iload_n 1, 1) := by decide +kernel
theorem d_M_init_237 : decode b_M_init 237 = .ok (.iconst 4, 1) := by decide +kernel
theorem d_M_init_238 : decode b_M_init 238 = .ok (.if_icmp .ge 16, 3) := by decide +kernel
theorem d_M_init_241 : decode b_M_init 241 = .ok (.aload_n 0, 1) := by decide +kernel
theorem d_M_init_242 : decode b_M_init 242 = .ok (.getfield 62, 3) := by decide +kernel
theorem d_M_init_245 : decode b_M_init 245 = .ok (.iload_n 1, 1) := by decide +kernel
theorem d_M_init_246 : decode b_M_init 246 = .ok (.iconst (-1), 1) := by decide +kernel
theorem d_M_init_247 : decode b_M_init 247 = .ok (.iastore, 1) := by decide +kernel
theorem d_M_init_248 : decode b_M_init 248 = .ok (.iinc 1 1, 3) := by decide +kernel
theorem d_M_init_251 : decode b_M_init 251 = .ok (.goto (-15), 3) := by decide +kernel
theorem d_M_init_254 : decode b_M_init 254 = .ok (.return_, 1) := by decide +kernel
abbrev b_M_thrown : ByteArray := prog_9_method_2_code
theorem d_M_thrown_0 : decode b_M_thrown 0 = .ok (.aload_n 0, 1) := by decide +kernel
theorem d_M_thrown_1 : decode b_M_thrown 1 = .ok (.getfield 102, 3) := by decide +kernel
theorem d_M_thrown_4 : decode b_M_thrown 4 = .ok (.ireturn, 1) := by decide +kernel
abbrev b_M_is : ByteArray := prog_9_method_3_code
theorem d_M_is_0 : decode b_M_is 0 = .ok (.iload_n 0, 1) := by decide +kernel
theorem d_M_is_1 : decode b_M_is 1 = .ok (.ifCond .lt 23, 3) := by decide +kernel
theorem d_M_is_4 : decode b_M_is 4 = .ok (.iload_n 0, 1) := by decide +kernel
theorem d_M_is_5 : decode b_M_is 5 = .ok (.bipush 32, 2) := by decide +kernel
theorem d_M_is_7 : decode b_M_is 7 = .ok (.if_icmp .ge 17, 3) := by decide +kernel
theorem d_M_is_10 : decode b_M_is 10 = .ok (.iload_n 1, 1) := by decide +kernel
theorem d_M_is_11 : decode b_M_is 11 = .ok (.ifCond .lt 13, 3) := by decide +kernel
theorem d_M_is_14 : decode b_M_is 14 = .ok (.iload_n 1, 1) := by decide +kernel
theorem d_M_is_15 : decode b_M_is 15 = .ok (.bipush 24, 2) := by decide +kernel
theorem d_M_is_17 : decode b_M_is 17 = .ok (.if_icmp .ge 7, 3) := by decide +kernel
theorem d_M_is_20 : decode b_M_is 20 = .ok (.iconst 1, 1) := by decide +kernel
theorem d_M_is_21 : decode b_M_is 21 = .ok (.goto 4, 3) := by decide +kernel
theorem d_M_is_24 : decode b_M_is 24 = .ok (.iconst 0, 1) := by decide +kernel
theorem d_M_is_25 : decode b_M_is 25 = .ok (.ireturn, 1) := by decide +kernel
abbrev b_M_bit : ByteArray := prog_9_method_4_code
theorem d_M_bit_0 : decode b_M_bit 0 = .ok (.iload_n 0, 1) := by decide +kernel
theorem d_M_bit_1 : decode b_M_bit 1 = .ok (.iload_n 1, 1) := by decide +kernel
theorem d_M_bit_2 : decode b_M_bit 2 = .ok (.ishr, 1) := by decide +kernel
theorem d_M_bit_3 : decode b_M_bit 3 = .ok (.iconst 1, 1) := by decide +kernel
theorem d_M_bit_4 : decode b_M_bit 4 = .ok (.iand, 1) := by decide +kernel
theorem d_M_bit_5 : decode b_M_bit 5 = .ok (.ireturn, 1) := by decide +kernel
abbrev b_M_headsIn : ByteArray := prog_9_method_5_code
theorem d_M_headsIn_0 : decode b_M_headsIn 0 = .ok (.iload_n 1, 1) := by decide +kernel
theorem d_M_headsIn_1 : decode b_M_headsIn 1 = .ok (.ifCond .lt 9, 3) := by decide +kernel
theorem d_M_headsIn_4 : decode b_M_headsIn 4 = .ok (.iload_n 1, 1) := by decide +kernel
theorem d_M_headsIn_5 : decode b_M_headsIn 5 = .ok (.bipush 23, 2) := by decide +kernel
theorem d_M_headsIn_7 : decode b_M_headsIn 7 = .ok (.if_icmp .le 7, 3) := by decide +kernel
theorem d_M_headsIn_10 : decode b_M_headsIn 10 = .ok (.iconst 0, 1) := by decide +kernel
theorem d_M_headsIn_11 : decode b_M_headsIn 11 = .ok (.goto 9, 3) := by decide +kernel
theorem d_M_headsIn_14 : decode b_M_headsIn 14 = .ok (.aload_n 0, 1) := by decide +kernel
theorem d_M_headsIn_15 : decode b_M_headsIn 15 = .ok (.getfield 19, 3) := by decide +kernel
theorem d_M_headsIn_18 : decode b_M_headsIn 18 = .ok (.iload_n 1, 1) := by decide +kernel
theorem d_M_headsIn_19 : decode b_M_headsIn 19 = .ok (.iaload, 1) := by decide +kernel
theorem d_M_headsIn_20 : decode b_M_headsIn 20 = .ok (.ireturn, 1) := by decide +kernel
abbrev b_M_lit : ByteArray := prog_9_method_6_code
theorem d_M_lit_0 : decode b_M_lit 0 = .ok (.iconst 0, 1) := by decide +kernel
theorem d_M_lit_1 : decode b_M_lit 1 = .ok (.istore_n 2, 1) := by decide +kernel
theorem d_M_lit_2 : decode b_M_lit 2 = .ok (.iconst 0, 1) := by decide +kernel
theorem d_M_lit_3 : decode b_M_lit 3 = .ok (.istore_n 3, 1) := by decide +kernel
theorem d_M_lit_4 : decode b_M_lit 4 = .ok (.iconst 0, 1) := by decide +kernel
theorem d_M_lit_5 : decode b_M_lit 5 = .ok (.istore 4, 2) := by decide +kernel
theorem d_M_lit_7 : decode b_M_lit 7 = .ok (.iconst 0, 1) := by decide +kernel
theorem d_M_lit_8 : decode b_M_lit 8 = .ok (.istore 5, 2) := by decide +kernel
theorem d_M_lit_10 : decode b_M_lit 10 = .ok (.iload 5, 2) := by decide +kernel
theorem d_M_lit_12 : decode b_M_lit 12 = .ok (.bipush 9, 2) := by decide +kernel
theorem d_M_lit_14 : decode b_M_lit 14 = .ok (.if_icmp .ge 87, 3) := by decide +kernel
theorem d_M_lit_17 : decode b_M_lit 17 = .ok (.aload_n 0, 1) := by decide +kernel
theorem d_M_lit_18 : decode b_M_lit 18 = .ok (.iload_n 1, 1) := by decide +kernel
theorem d_M_lit_19 : decode b_M_lit 19 = .ok (.iconst 1, 1) := by decide +kernel
theorem d_M_lit_20 : decode b_M_lit 20 = .ok (.isub, 1) := by decide +kernel
theorem d_M_lit_21 : decode b_M_lit 21 = .ok (.iload 5, 2) := by decide +kernel
theorem d_M_lit_23 : decode b_M_lit 23 = .ok (.iconst 3, 1) := by decide +kernel
theorem d_M_lit_24 : decode b_M_lit 24 = .ok (.idiv, 1) := by decide +kernel
theorem d_M_lit_25 : decode b_M_lit 25 = .ok (.iadd, 1) := by decide +kernel
theorem d_M_lit_26 : decode b_M_lit 26 = .ok (.invokevirtual 106, 3) := by decide +kernel
theorem d_M_lit_29 : decode b_M_lit 29 = .ok (.istore 6, 2) := by decide +kernel
theorem d_M_lit_31 : decode b_M_lit 31 = .ok (.iload 5, 2) := by decide +kernel
theorem d_M_lit_33 : decode b_M_lit 33 = .ok (.iconst 3, 1) := by decide +kernel
theorem d_M_lit_34 : decode b_M_lit 34 = .ok (.irem, 1) := by decide +kernel
theorem d_M_lit_35 : decode b_M_lit 35 = .ok (.ifCond .ne 10, 3) := by decide +kernel
theorem d_M_lit_38 : decode b_M_lit 38 = .ok (.iload 6, 2) := by decide +kernel
theorem d_M_lit_40 : decode b_M_lit 40 = .ok (.iconst 1, 1) := by decide +kernel
theorem d_M_lit_41 : decode b_M_lit 41 = .ok (.ishl, 1) := by decide +kernel
theorem d_M_lit_42 : decode b_M_lit 42 = .ok (.goto 20, 3) := by decide +kernel
theorem d_M_lit_45 : decode b_M_lit 45 = .ok (.iload 5, 2) := by decide +kernel
theorem d_M_lit_47 : decode b_M_lit 47 = .ok (.iconst 3, 1) := by decide +kernel
theorem d_M_lit_48 : decode b_M_lit 48 = .ok (.irem, 1) := by decide +kernel
theorem d_M_lit_49 : decode b_M_lit 49 = .ok (.iconst 1, 1) := by decide +kernel
theorem d_M_lit_50 : decode b_M_lit 50 = .ok (.if_icmp .ne 8, 3) := by decide +kernel
theorem d_M_lit_53 : decode b_M_lit 53 = .ok (.iload 6, 2) := by decide +kernel
theorem d_M_lit_55 : decode b_M_lit 55 = .ok (.goto 7, 3) := by decide +kernel
theorem d_M_lit_58 : decode b_M_lit 58 = .ok (.iload 6, 2) := by decide +kernel
theorem d_M_lit_60 : decode b_M_lit 60 = .ok (.iconst 1, 1) := by decide +kernel
theorem d_M_lit_61 : decode b_M_lit 61 = .ok (.iushr, 1) := by decide +kernel
theorem d_M_lit_62 : decode b_M_lit 62 = .ok (.istore 7, 2) := by decide +kernel
theorem d_M_lit_64 : decode b_M_lit 64 = .ok (.iload 5, 2) := by decide +kernel
theorem d_M_lit_66 : decode b_M_lit 66 = .ok (.iconst 4, 1) := by decide +kernel
theorem d_M_lit_67 : decode b_M_lit 67 = .ok (.if_icmp .eq 28, 3) := by decide +kernel
theorem d_M_lit_70 : decode b_M_lit 70 = .ok (.iload_n 2, 1) := by decide +kernel
theorem d_M_lit_71 : decode b_M_lit 71 = .ok (.iload 7, 2) := by decide +kernel
theorem d_M_lit_73 : decode b_M_lit 73 = .ok (.iand, 1) := by decide +kernel
theorem d_M_lit_74 : decode b_M_lit 74 = .ok (.istore 8, 2) := by decide +kernel
theorem d_M_lit_76 : decode b_M_lit 76 = .ok (.iload_n 2, 1) := by decide +kernel
theorem d_M_lit_77 : decode b_M_lit 77 = .ok (.iload 7, 2) := by decide +kernel
theorem d_M_lit_79 : decode b_M_lit 79 = .ok (.ixor, 1) := by decide +kernel
theorem d_M_lit_80 : decode b_M_lit 80 = .ok (.istore_n 2, 1) := by decide +kernel
theorem d_M_lit_81 : decode b_M_lit 81 = .ok (.iload 4, 2) := by decide +kernel
theorem d_M_lit_83 : decode b_M_lit 83 = .ok (.iload_n 3, 1) := by decide +kernel
theorem d_M_lit_84 : decode b_M_lit 84 = .ok (.iload 8, 2) := by decide +kernel
theorem d_M_lit_86 : decode b_M_lit 86 = .ok (.iand, 1) := by decide +kernel
theorem d_M_lit_87 : decode b_M_lit 87 = .ok (.ior, 1) := by decide +kernel
theorem d_M_lit_88 : decode b_M_lit 88 = .ok (.istore 4, 2) := by decide +kernel
theorem d_M_lit_90 : decode b_M_lit 90 = .ok (.iload_n 3, 1) := by decide +kernel
theorem d_M_lit_91 : decode b_M_lit 91 = .ok (.iload 8, 2) := by decide +kernel
theorem d_M_lit_93 : decode b_M_lit 93 = .ok (.ixor, 1) := by decide +kernel
theorem d_M_lit_94 : decode b_M_lit 94 = .ok (.istore_n 3, 1) := by decide +kernel
theorem d_M_lit_95 : decode b_M_lit 95 = .ok (.iinc 5 1, 3) := by decide +kernel
theorem d_M_lit_98 : decode b_M_lit 98 = .ok (.goto (-88), 3) := by decide +kernel
theorem d_M_lit_101 : decode b_M_lit 101 = .ok (.iload_n 2, 1) := by decide +kernel
theorem d_M_lit_102 : decode b_M_lit 102 = .ok (.iload_n 3, 1) := by decide +kernel
theorem d_M_lit_103 : decode b_M_lit 103 = .ok (.ixor, 1) := by decide +kernel
theorem d_M_lit_104 : decode b_M_lit 104 = .ok (.iload 4, 2) := by decide +kernel
theorem d_M_lit_106 : decode b_M_lit 106 = .ok (.iconst (-1), 1) := by decide +kernel
theorem d_M_lit_107 : decode b_M_lit 107 = .ok (.ixor, 1) := by decide +kernel
theorem d_M_lit_108 : decode b_M_lit 108 = .ok (.iand, 1) := by decide +kernel
theorem d_M_lit_109 : decode b_M_lit 109 = .ok (.ireturn, 1) := by decide +kernel
abbrev b_M_keep : ByteArray := prog_9_method_7_code
theorem d_M_keep_0 : decode b_M_keep 0 = .ok (.iconst 0, 1) := by decide +kernel
theorem d_M_keep_1 : decode b_M_keep 1 = .ok (.istore_n 1, 1) := by decide +kernel
theorem d_M_keep_2 : decode b_M_keep 2 = .ok (.iload_n 1, 1) := by decide +kernel
theorem d_M_keep_3 : decode b_M_keep 3 = .ok (.bipush 24, 2) := by decide +kernel
theorem d_M_keep_5 : decode b_M_keep 5 = .ok (.if_icmp .ge 75, 3) := by decide +kernel
theorem d_M_keep_8 : decode b_M_keep 8 = .ok (.aload_n 0, 1) := by decide +kernel
theorem d_M_keep_9 : decode b_M_keep 9 = .ok (.getfield 22, 3) := by decide +kernel
theorem d_M_keep_12 : decode b_M_keep 12 = .ok (.bipush 72, 2) := by decide +kernel
theorem d_M_keep_14 : decode b_M_keep 14 = .ok (.aload_n 0, 1) := by decide +kernel
theorem d_M_keep_15 : decode b_M_keep 15 = .ok (.getfield 110, 3) := by decide +kernel
theorem d_M_keep_18 : decode b_M_keep 18 = .ok (.imul, 1) := by decide +kernel
theorem d_M_keep_19 : decode b_M_keep 19 = .ok (.iload_n 1, 1) := by decide +kernel
theorem d_M_keep_20 : decode b_M_keep 20 = .ok (.iadd, 1) := by decide +kernel
theorem d_M_keep_21 : decode b_M_keep 21 = .ok (.aload_n 0, 1) := by decide +kernel
theorem d_M_keep_22 : decode b_M_keep 22 = .ok (.getfield 7, 3) := by decide +kernel
theorem d_M_keep_25 : decode b_M_keep 25 = .ok (.iload_n 1, 1) := by decide +kernel
theorem d_M_keep_26 : decode b_M_keep 26 = .ok (.iaload, 1) := by decide +kernel
theorem d_M_keep_27 : decode b_M_keep 27 = .ok (.iastore, 1) := by decide +kernel
theorem d_M_keep_28 : decode b_M_keep 28 = .ok (.aload_n 0, 1) := by decide +kernel
theorem d_M_keep_29 : decode b_M_keep 29 = .ok (.getfield 22, 3) := by decide +kernel
theorem d_M_keep_32 : decode b_M_keep 32 = .ok (.bipush 72, 2) := by decide +kernel
theorem d_M_keep_34 : decode b_M_keep 34 = .ok (.aload_n 0, 1) := by decide +kernel
theorem d_M_keep_35 : decode b_M_keep 35 = .ok (.getfield 110, 3) := by decide +kernel
theorem d_M_keep_38 : decode b_M_keep 38 = .ok (.imul, 1) := by decide +kernel
theorem d_M_keep_39 : decode b_M_keep 39 = .ok (.bipush 24, 2) := by decide +kernel
theorem d_M_keep_41 : decode b_M_keep 41 = .ok (.iadd, 1) := by decide +kernel
theorem d_M_keep_42 : decode b_M_keep 42 = .ok (.iload_n 1, 1) := by decide +kernel
theorem d_M_keep_43 : decode b_M_keep 43 = .ok (.iadd, 1) := by decide +kernel
theorem d_M_keep_44 : decode b_M_keep 44 = .ok (.aload_n 0, 1) := by decide +kernel
theorem d_M_keep_45 : decode b_M_keep 45 = .ok (.getfield 13, 3) := by decide +kernel
theorem d_M_keep_48 : decode b_M_keep 48 = .ok (.iload_n 1, 1) := by decide +kernel
theorem d_M_keep_49 : decode b_M_keep 49 = .ok (.iaload, 1) := by decide +kernel
theorem d_M_keep_50 : decode b_M_keep 50 = .ok (.iastore, 1) := by decide +kernel
theorem d_M_keep_51 : decode b_M_keep 51 = .ok (.aload_n 0, 1) := by decide +kernel
theorem d_M_keep_52 : decode b_M_keep 52 = .ok (.getfield 22, 3) := by decide +kernel
theorem d_M_keep_55 : decode b_M_keep 55 = .ok (.bipush 72, 2) := by decide +kernel
theorem d_M_keep_57 : decode b_M_keep 57 = .ok (.aload_n 0, 1) := by decide +kernel
theorem d_M_keep_58 : decode b_M_keep 58 = .ok (.getfield 110, 3) := by decide +kernel
theorem d_M_keep_61 : decode b_M_keep 61 = .ok (.imul, 1) := by decide +kernel
theorem d_M_keep_62 : decode b_M_keep 62 = .ok (.bipush 48, 2) := by decide +kernel
theorem d_M_keep_64 : decode b_M_keep 64 = .ok (.iadd, 1) := by decide +kernel
theorem d_M_keep_65 : decode b_M_keep 65 = .ok (.iload_n 1, 1) := by decide +kernel
theorem d_M_keep_66 : decode b_M_keep 66 = .ok (.iadd, 1) := by decide +kernel
theorem d_M_keep_67 : decode b_M_keep 67 = .ok (.aload_n 0, 1) := by decide +kernel
theorem d_M_keep_68 : decode b_M_keep 68 = .ok (.getfield 16, 3) := by decide +kernel
theorem d_M_keep_71 : decode b_M_keep 71 = .ok (.iload_n 1, 1) := by decide +kernel
theorem d_M_keep_72 : decode b_M_keep 72 = .ok (.iaload, 1) := by decide +kernel
theorem d_M_keep_73 : decode b_M_keep 73 = .ok (.iastore, 1) := by decide +kernel
theorem d_M_keep_74 : decode b_M_keep 74 = .ok (.iinc 1 1, 3) := by decide +kernel
theorem d_M_keep_77 : decode b_M_keep 77 = .ok (.goto (-75), 3) := by decide +kernel
theorem d_M_keep_80 : decode b_M_keep 80 = .ok (.iconst 0, 1) := by decide +kernel
theorem d_M_keep_81 : decode b_M_keep 81 = .ok (.istore_n 1, 1) := by decide +kernel
theorem d_M_keep_82 : decode b_M_keep 82 = .ok (.iload_n 1, 1) := by decide +kernel
theorem d_M_keep_83 : decode b_M_keep 83 = .ok (.iconst 4, 1) := by decide +kernel
theorem d_M_keep_84 : decode b_M_keep 84 = .ok (.if_icmp .ge 28, 3) := by decide +kernel
theorem d_M_keep_87 : decode b_M_keep 87 = .ok (.aload_n 0, 1) := by decide +kernel
theorem d_M_keep_88 : decode b_M_keep 88 = .ok (.getfield 25, 3) := by decide +kernel
theorem d_M_keep_91 : decode b_M_keep 91 = .ok (.iconst 4, 1) := by decide +kernel
theorem d_M_keep_92 : decode b_M_keep 92 = .ok (.aload_n 0, 1) := by decide +kernel
theorem d_M_keep_93 : decode b_M_keep 93 = .ok (.getfield 110, 3) := by decide +kernel
theorem d_M_keep_96 : decode b_M_keep 96 = .ok (.imul, 1) := by decide +kernel
theorem d_M_keep_97 : decode b_M_keep 97 = .ok (.iload_n 1, 1) := by decide +kernel
theorem d_M_keep_98 : decode b_M_keep 98 = .ok (.iadd, 1) := by decide +kernel
theorem d_M_keep_99 : decode b_M_keep 99 = .ok (.aload_n 0, 1) := by decide +kernel
theorem d_M_keep_100 : decode b_M_keep 100 = .ok (.getfield 41, 3) := by decide +kernel
theorem d_M_keep_103 : decode b_M_keep 103 = .ok (.iload_n 1, 1) := by decide +kernel
theorem d_M_keep_104 : decode b_M_keep 104 = .ok (.iaload, 1) := by decide +kernel
theorem d_M_keep_105 : decode b_M_keep 105 = .ok (.iastore, 1) := by decide +kernel
theorem d_M_keep_106 : decode b_M_keep 106 = .ok (.iinc 1 1, 3) := by decide +kernel
theorem d_M_keep_109 : decode b_M_keep 109 = .ok (.goto (-27), 3) := by decide +kernel
theorem d_M_keep_112 : decode b_M_keep 112 = .ok (.aload_n 0, 1) := by decide +kernel
theorem d_M_keep_113 : decode b_M_keep 113 = .ok (.aload_n 0, 1) := by decide +kernel
theorem d_M_keep_114 : decode b_M_keep 114 = .ok (.getfield 110, 3) := by decide +kernel
theorem d_M_keep_117 : decode b_M_keep 117 = .ok (.iconst 1, 1) := by decide +kernel
theorem d_M_keep_118 : decode b_M_keep 118 = .ok (.iadd, 1) := by decide +kernel
theorem d_M_keep_119 : decode b_M_keep 119 = .ok (.bipush 16, 2) := by decide +kernel
theorem d_M_keep_121 : decode b_M_keep 121 = .ok (.irem, 1) := by decide +kernel
theorem d_M_keep_122 : decode b_M_keep 122 = .ok (.putfield 110, 3) := by decide +kernel
theorem d_M_keep_125 : decode b_M_keep 125 = .ok (.aload_n 0, 1) := by decide +kernel
theorem d_M_keep_126 : decode b_M_keep 126 = .ok (.aload_n 0, 1) := by decide +kernel
theorem d_M_keep_127 : decode b_M_keep 127 = .ok (.getfield 113, 3) := by decide +kernel
theorem d_M_keep_130 : decode b_M_keep 130 = .ok (.bipush 16, 2) := by decide +kernel
theorem d_M_keep_132 : decode b_M_keep 132 = .ok (.if_icmp .ge 12, 3) := by decide +kernel
theorem d_M_keep_135 : decode b_M_keep 135 = .ok (.aload_n 0, 1) := by decide +kernel
theorem d_M_keep_136 : decode b_M_keep 136 = .ok (.getfield 113, 3) := by decide +kernel
theorem d_M_keep_139 : decode b_M_keep 139 = .ok (.iconst 1, 1) := by decide +kernel
theorem d_M_keep_140 : decode b_M_keep 140 = .ok (.iadd, 1) := by decide +kernel
theorem d_M_keep_141 : decode b_M_keep 141 = .ok (.goto 5, 3) := by decide +kernel
theorem d_M_keep_144 : decode b_M_keep 144 = .ok (.bipush 16, 2) := by decide +kernel
theorem d_M_keep_146 : decode b_M_keep 146 = .ok (.putfield 113, 3) := by decide +kernel
theorem d_M_keep_149 : decode b_M_keep 149 = .ok (.return_, 1) := by decide +kernel
abbrev b_M_generation : ByteArray := prog_9_method_8_code
theorem d_M_generation_0 : decode b_M_generation 0 = .ok (.aload_n 0, 1) := by decide +kernel
theorem d_M_generation_1 : decode b_M_generation 1 = .ok (.invokevirtual 116, 3) := by decide +kernel
theorem d_M_generation_4 : decode b_M_generation 4 = .ok (.iconst 0, 1) := by decide +kernel
theorem d_M_generation_5 : decode b_M_generation 5 = .ok (.istore_n 1, 1) := by decide +kernel
theorem d_M_generation_6 : decode b_M_generation 6 = .ok (.iload_n 1, 1) := by decide +kernel
theorem d_M_generation_7 : decode b_M_generation 7 = .ok (.aload_n 0, 1) := by decide +kernel
theorem d_M_generation_8 : decode b_M_generation 8 = .ok (.getfield 119, 3) := by decide +kernel
theorem d_M_generation_11 : decode b_M_generation 11 = .ok (.if_icmp .ge 107, 3) := by decide +kernel
theorem d_M_generation_14 : decode b_M_generation 14 = .ok (.iconst 1, 1) := by decide +kernel
theorem d_M_generation_15 : decode b_M_generation 15 = .ok (.aload_n 0, 1) := by decide +kernel
theorem d_M_generation_16 : decode b_M_generation 16 = .ok (.getfield 28, 3) := by decide +kernel
theorem d_M_generation_19 : decode b_M_generation 19 = .ok (.iload_n 1, 1) := by decide +kernel
theorem d_M_generation_20 : decode b_M_generation 20 = .ok (.iaload, 1) := by decide +kernel
theorem d_M_generation_21 : decode b_M_generation 21 = .ok (.ishl, 1) := by decide +kernel
theorem d_M_generation_22 : decode b_M_generation 22 = .ok (.istore_n 2, 1) := by decide +kernel
theorem d_M_generation_23 : decode b_M_generation 23 = .ok (.aload_n 0, 1) := by decide +kernel
theorem d_M_generation_24 : decode b_M_generation 24 = .ok (.getfield 34, 3) := by decide +kernel
theorem d_M_generation_27 : decode b_M_generation 27 = .ok (.iload_n 1, 1) := by decide +kernel
theorem d_M_generation_28 : decode b_M_generation 28 = .ok (.laload, 1) := by decide +kernel
theorem d_M_generation_29 : decode b_M_generation 29 = .ok (.aload_n 0, 1) := by decide +kernel
theorem d_M_generation_30 : decode b_M_generation 30 = .ok (.getfield 41, 3) := by decide +kernel
theorem d_M_generation_33 : decode b_M_generation 33 = .ok (.iload_n 1, 1) := by decide +kernel
theorem d_M_generation_34 : decode b_M_generation 34 = .ok (.iaload, 1) := by decide +kernel
theorem d_M_generation_35 : decode b_M_generation 35 = .ok (.lshr, 1) := by decide +kernel
theorem d_M_generation_36 : decode b_M_generation 36 = .ok (.lconst 1, 1) := by decide +kernel
theorem d_M_generation_37 : decode b_M_generation 37 = .ok (.land, 1) := by decide +kernel
theorem d_M_generation_38 : decode b_M_generation 38 = .ok (.lconst 1, 1) := by decide +kernel
theorem d_M_generation_39 : decode b_M_generation 39 = .ok (.lcmp, 1) := by decide +kernel
theorem d_M_generation_40 : decode b_M_generation 40 = .ok (.ifCond .ne 51, 3) := by decide +kernel
theorem d_M_generation_43 : decode b_M_generation 43 = .ok (.aload_n 0, 1) := by decide +kernel
theorem d_M_generation_44 : decode b_M_generation 44 = .ok (.getfield 16, 3) := by decide +kernel
theorem d_M_generation_47 : decode b_M_generation 47 = .ok (.aload_n 0, 1) := by decide +kernel
theorem d_M_generation_48 : decode b_M_generation 48 = .ok (.getfield 31, 3) := by decide +kernel
theorem d_M_generation_51 : decode b_M_generation 51 = .ok (.iload_n 1, 1) := by decide +kernel
theorem d_M_generation_52 : decode b_M_generation 52 = .ok (.iaload, 1) := by decide +kernel
theorem d_M_generation_53 : decode b_M_generation 53 = .ok (.iaload, 1) := by decide +kernel
theorem d_M_generation_54 : decode b_M_generation 54 = .ok (.iload_n 2, 1) := by decide +kernel
theorem d_M_generation_55 : decode b_M_generation 55 = .ok (.iand, 1) := by decide +kernel
theorem d_M_generation_56 : decode b_M_generation 56 = .ok (.ifCond .eq 35, 3) := by decide +kernel
theorem d_M_generation_59 : decode b_M_generation 59 = .ok (.aload_n 0, 1) := by decide +kernel
theorem d_M_generation_60 : decode b_M_generation 60 = .ok (.getfield 16, 3) := by decide +kernel
theorem d_M_generation_63 : decode b_M_generation 63 = .ok (.aload_n 0, 1) := by decide +kernel
theorem d_M_generation_64 : decode b_M_generation 64 = .ok (.getfield 31, 3) := by decide +kernel
theorem d_M_generation_67 : decode b_M_generation 67 = .ok (.iload_n 1, 1) := by decide +kernel
theorem d_M_generation_68 : decode b_M_generation 68 = .ok (.iaload, 1) := by decide +kernel
theorem d_M_generation_69 : decode b_M_generation 69 = .ok (.dup2, 1) := by decide +kernel
theorem d_M_generation_70 : decode b_M_generation 70 = .ok (.iaload, 1) := by decide +kernel
theorem d_M_generation_71 : decode b_M_generation 71 = .ok (.iload_n 2, 1) := by decide +kernel
theorem d_M_generation_72 : decode b_M_generation 72 = .ok (.iconst (-1), 1) := by decide +kernel
theorem d_M_generation_73 : decode b_M_generation 73 = .ok (.ixor, 1) := by decide +kernel
theorem d_M_generation_74 : decode b_M_generation 74 = .ok (.iand, 1) := by decide +kernel
theorem d_M_generation_75 : decode b_M_generation 75 = .ok (.iastore, 1) := by decide +kernel
theorem d_M_generation_76 : decode b_M_generation 76 = .ok (.aload_n 0, 1) := by decide +kernel
theorem d_M_generation_77 : decode b_M_generation 77 = .ok (.getfield 7, 3) := by decide +kernel
theorem d_M_generation_80 : decode b_M_generation 80 = .ok (.aload_n 0, 1) := by decide +kernel
theorem d_M_generation_81 : decode b_M_generation 81 = .ok (.getfield 31, 3) := by decide +kernel
theorem d_M_generation_84 : decode b_M_generation 84 = .ok (.iload_n 1, 1) := by decide +kernel
theorem d_M_generation_85 : decode b_M_generation 85 = .ok (.iaload, 1) := by decide +kernel
theorem d_M_generation_86 : decode b_M_generation 86 = .ok (.dup2, 1) := by decide +kernel
theorem d_M_generation_87 : decode b_M_generation 87 = .ok (.iaload, 1) := by decide +kernel
theorem d_M_generation_88 : decode b_M_generation 88 = .ok (.iload_n 2, 1) := by decide +kernel
theorem d_M_generation_89 : decode b_M_generation 89 = .ok (.ior, 1) := by decide +kernel
theorem d_M_generation_90 : decode b_M_generation 90 = .ok (.iastore, 1) := by decide +kernel
theorem d_M_generation_91 : decode b_M_generation 91 = .ok (.aload_n 0, 1) := by decide +kernel
theorem d_M_generation_92 : decode b_M_generation 92 = .ok (.getfield 41, 3) := by decide +kernel
theorem d_M_generation_95 : decode b_M_generation 95 = .ok (.iload_n 1, 1) := by decide +kernel
theorem d_M_generation_96 : decode b_M_generation 96 = .ok (.aload_n 0, 1) := by decide +kernel
theorem d_M_generation_97 : decode b_M_generation 97 = .ok (.getfield 41, 3) := by decide +kernel
theorem d_M_generation_100 : decode b_M_generation 100 = .ok (.iload_n 1, 1) := by decide +kernel
theorem d_M_generation_101 : decode b_M_generation 101 = .ok (.iaload, 1) := by decide +kernel
theorem d_M_generation_102 : decode b_M_generation 102 = .ok (.iconst 1, 1) := by decide +kernel
theorem d_M_generation_103 : decode b_M_generation 103 = .ok (.iadd, 1) := by decide +kernel
theorem d_M_generation_104 : decode b_M_generation 104 = .ok (.aload_n 0, 1) := by decide +kernel
theorem d_M_generation_105 : decode b_M_generation 105 = .ok (.getfield 38, 3) := by decide +kernel
theorem d_M_generation_108 : decode b_M_generation 108 = .ok (.iload_n 1, 1) := by decide +kernel
theorem d_M_generation_109 : decode b_M_generation 109 = .ok (.iaload, 1) := by decide +kernel
theorem d_M_generation_110 : decode b_M_generation 110 = .ok (.irem, 1) := by decide +kernel
theorem d_M_generation_111 : decode b_M_generation 111 = .ok (.iastore, 1) := by decide +kernel
theorem d_M_generation_112 : decode b_M_generation 112 = .ok (.iinc 1 1, 3) := by decide +kernel
theorem d_M_generation_115 : decode b_M_generation 115 = .ok (.goto (-109), 3) := by decide +kernel
theorem d_M_generation_118 : decode b_M_generation 118 = .ok (.iconst 0, 1) := by decide +kernel
theorem d_M_generation_119 : decode b_M_generation 119 = .ok (.istore_n 1, 1) := by decide +kernel
theorem d_M_generation_120 : decode b_M_generation 120 = .ok (.iload_n 1, 1) := by decide +kernel
theorem d_M_generation_121 : decode b_M_generation 121 = .ok (.bipush 24, 2) := by decide +kernel
theorem d_M_generation_123 : decode b_M_generation 123 = .ok (.if_icmp .ge 21, 3) := by decide +kernel
theorem d_M_generation_126 : decode b_M_generation 126 = .ok (.aload_n 0, 1) := by decide +kernel
theorem d_M_generation_127 : decode b_M_generation 127 = .ok (.getfield 19, 3) := by decide +kernel
theorem d_M_generation_130 : decode b_M_generation 130 = .ok (.iload_n 1, 1) := by decide +kernel
theorem d_M_generation_131 : decode b_M_generation 131 = .ok (.aload_n 0, 1) := by decide +kernel
theorem d_M_generation_132 : decode b_M_generation 132 = .ok (.getfield 7, 3) := by decide +kernel
theorem d_M_generation_135 : decode b_M_generation 135 = .ok (.iload_n 1, 1) := by decide +kernel
theorem d_M_generation_136 : decode b_M_generation 136 = .ok (.iaload, 1) := by decide +kernel
theorem d_M_generation_137 : decode b_M_generation 137 = .ok (.iastore, 1) := by decide +kernel
theorem d_M_generation_138 : decode b_M_generation 138 = .ok (.iinc 1 1, 3) := by decide +kernel
theorem d_M_generation_141 : decode b_M_generation 141 = .ok (.goto (-21), 3) := by decide +kernel
theorem d_M_generation_144 : decode b_M_generation 144 = .ok (.iconst 0, 1) := by decide +kernel
theorem d_M_generation_145 : decode b_M_generation 145 = .ok (.istore_n 1, 1) := by decide +kernel
theorem d_M_generation_146 : decode b_M_generation 146 = .ok (.iload_n 1, 1) := by decide +kernel
theorem d_M_generation_147 : decode b_M_generation 147 = .ok (.bipush 24, 2) := by decide +kernel
theorem d_M_generation_149 : decode b_M_generation 149 = .ok (.if_icmp .ge 64, 3) := by decide +kernel
theorem d_M_generation_152 : decode b_M_generation 152 = .ok (.aload_n 0, 1) := by decide +kernel
theorem d_M_generation_153 : decode b_M_generation 153 = .ok (.getfield 16, 3) := by decide +kernel
theorem d_M_generation_156 : decode b_M_generation 156 = .ok (.iload_n 1, 1) := by decide +kernel
theorem d_M_generation_157 : decode b_M_generation 157 = .ok (.iaload, 1) := by decide +kernel
theorem d_M_generation_158 : decode b_M_generation 158 = .ok (.aload_n 0, 1) := by decide +kernel
theorem d_M_generation_159 : decode b_M_generation 159 = .ok (.iload_n 1, 1) := by decide +kernel
theorem d_M_generation_160 : decode b_M_generation 160 = .ok (.invokevirtual 122, 3) := by decide +kernel
theorem d_M_generation_163 : decode b_M_generation 163 = .ok (.iand, 1) := by decide +kernel
theorem d_M_generation_164 : decode b_M_generation 164 = .ok (.istore_n 2, 1) := by decide +kernel
theorem d_M_generation_165 : decode b_M_generation 165 = .ok (.aload_n 0, 1) := by decide +kernel
theorem d_M_generation_166 : decode b_M_generation 166 = .ok (.getfield 16, 3) := by decide +kernel
theorem d_M_generation_169 : decode b_M_generation 169 = .ok (.iload_n 1, 1) := by decide +kernel
theorem d_M_generation_170 : decode b_M_generation 170 = .ok (.aload_n 0, 1) := by decide +kernel
theorem d_M_generation_171 : decode b_M_generation 171 = .ok (.getfield 16, 3) := by decide +kernel
theorem d_M_generation_174 : decode b_M_generation 174 = .ok (.iload_n 1, 1) := by decide +kernel
theorem d_M_generation_175 : decode b_M_generation 175 = .ok (.iaload, 1) := by decide +kernel
theorem d_M_generation_176 : decode b_M_generation 176 = .ok (.iload_n 2, 1) := by decide +kernel
theorem d_M_generation_177 : decode b_M_generation 177 = .ok (.iconst (-1), 1) := by decide +kernel
theorem d_M_generation_178 : decode b_M_generation 178 = .ok (.ixor, 1) := by decide +kernel
theorem d_M_generation_179 : decode b_M_generation 179 = .ok (.iand, 1) := by decide +kernel
theorem d_M_generation_180 : decode b_M_generation 180 = .ok (.aload_n 0, 1) := by decide +kernel
theorem d_M_generation_181 : decode b_M_generation 181 = .ok (.getfield 13, 3) := by decide +kernel
theorem d_M_generation_184 : decode b_M_generation 184 = .ok (.iload_n 1, 1) := by decide +kernel
theorem d_M_generation_185 : decode b_M_generation 185 = .ok (.iaload, 1) := by decide +kernel
theorem d_M_generation_186 : decode b_M_generation 186 = .ok (.ior, 1) := by decide +kernel
theorem d_M_generation_187 : decode b_M_generation 187 = .ok (.iastore, 1) := by decide +kernel
theorem d_M_generation_188 : decode b_M_generation 188 = .ok (.aload_n 0, 1) := by decide +kernel
theorem d_M_generation_189 : decode b_M_generation 189 = .ok (.getfield 13, 3) := by decide +kernel
theorem d_M_generation_192 : decode b_M_generation 192 = .ok (.iload_n 1, 1) := by decide +kernel
theorem d_M_generation_193 : decode b_M_generation 193 = .ok (.aload_n 0, 1) := by decide +kernel
theorem d_M_generation_194 : decode b_M_generation 194 = .ok (.getfield 7, 3) := by decide +kernel
theorem d_M_generation_197 : decode b_M_generation 197 = .ok (.iload_n 1, 1) := by decide +kernel
theorem d_M_generation_198 : decode b_M_generation 198 = .ok (.iaload, 1) := by decide +kernel
theorem d_M_generation_199 : decode b_M_generation 199 = .ok (.iastore, 1) := by decide +kernel
theorem d_M_generation_200 : decode b_M_generation 200 = .ok (.aload_n 0, 1) := by decide +kernel
theorem d_M_generation_201 : decode b_M_generation 201 = .ok (.getfield 7, 3) := by decide +kernel
theorem d_M_generation_204 : decode b_M_generation 204 = .ok (.iload_n 1, 1) := by decide +kernel
theorem d_M_generation_205 : decode b_M_generation 205 = .ok (.iload_n 2, 1) := by decide +kernel
theorem d_M_generation_206 : decode b_M_generation 206 = .ok (.iastore, 1) := by decide +kernel
theorem d_M_generation_207 : decode b_M_generation 207 = .ok (.iinc 1 1, 3) := by decide +kernel
theorem d_M_generation_210 : decode b_M_generation 210 = .ok (.goto (-64), 3) := by decide +kernel
theorem d_M_generation_213 : decode b_M_generation 213 = .ok (.aload_n 0, 1) := by decide +kernel
theorem d_M_generation_214 : decode b_M_generation 214 = .ok (.dup, 1) := by decide +kernel
theorem d_M_generation_215 : decode b_M_generation 215 = .ok (.getfield 125, 3) := by decide +kernel
theorem d_M_generation_218 : decode b_M_generation 218 = .ok (.iconst 1, 1) := by decide +kernel
theorem d_M_generation_219 : decode b_M_generation 219 = .ok (.iadd, 1) := by decide +kernel
theorem d_M_generation_220 : decode b_M_generation 220 = .ok (.putfield 125, 3) := by decide +kernel
theorem d_M_generation_223 : decode b_M_generation 223 = .ok (.iconst 0, 1) := by decide +kernel
theorem d_M_generation_224 : decode b_M_generation 224 = .ok (.istore_n 1, 1) := by decide +kernel
theorem d_M_generation_225 : decode b_M_generation 225 = .ok (.iload_n 1, 1) := by decide +kernel
theorem d_M_generation_226 : decode b_M_generation 226 = .ok (.aload_n 0, 1) := by decide +kernel
theorem d_M_generation_227 : decode b_M_generation 227 = .ok (.getfield 128, 3) := by decide +kernel
theorem d_M_generation_230 : decode b_M_generation 230 = .ok (.if_icmp .ge 83, 3) := by decide +kernel
theorem d_M_generation_233 : decode b_M_generation 233 = .ok (.aload_n 0, 1) := by decide +kernel
theorem d_M_generation_234 : decode b_M_generation 234 = .ok (.getfield 7, 3) := by decide +kernel
theorem d_M_generation_237 : decode b_M_generation 237 = .ok (.aload_n 0, 1) := by decide +kernel
theorem d_M_generation_238 : decode b_M_generation 238 = .ok (.getfield 47, 3) := by decide +kernel
theorem d_M_generation_241 : decode b_M_generation 241 = .ok (.iload_n 1, 1) := by decide +kernel
theorem d_M_generation_242 : decode b_M_generation 242 = .ok (.iaload, 1) := by decide +kernel
theorem d_M_generation_243 : decode b_M_generation 243 = .ok (.iaload, 1) := by decide +kernel
theorem d_M_generation_244 : decode b_M_generation 244 = .ok (.aload_n 0, 1) := by decide +kernel
theorem d_M_generation_245 : decode b_M_generation 245 = .ok (.getfield 44, 3) := by decide +kernel
theorem d_M_generation_248 : decode b_M_generation 248 = .ok (.iload_n 1, 1) := by decide +kernel
theorem d_M_generation_249 : decode b_M_generation 249 = .ok (.iaload, 1) := by decide +kernel
theorem d_M_generation_250 : decode b_M_generation 250 = .ok (.invokestatic 131, 3) := by decide +kernel
theorem d_M_generation_253 : decode b_M_generation 253 = .ok (.istore_n 2, 1) := by decide +kernel
theorem d_M_generation_254 : decode b_M_generation 254 = .ok (.aload_n 0, 1) := by decide +kernel
theorem d_M_generation_255 : decode b_M_generation 255 = .ok (.getfield 56, 3) := by decide +kernel
theorem d_M_generation_258 : decode b_M_generation 258 = .ok (.iload_n 1, 1) := by decide +kernel
theorem d_M_generation_259 : decode b_M_generation 259 = .ok (.aload_n 0, 1) := by decide +kernel
theorem d_M_generation_260 : decode b_M_generation 260 = .ok (.getfield 56, 3) := by decide +kernel
theorem d_M_generation_263 : decode b_M_generation 263 = .ok (.iload_n 1, 1) := by decide +kernel
theorem d_M_generation_264 : decode b_M_generation 264 = .ok (.laload, 1) := by decide +kernel
theorem d_M_generation_265 : decode b_M_generation 265 = .ok (.ldc2_w 135, 3) := by decide +kernel
theorem d_M_generation_268 : decode b_M_generation 268 = .ok (.lmul, 1) := by decide +kernel
theorem d_M_generation_269 : decode b_M_generation 269 = .ok (.iload_n 2, 1) := by decide +kernel
theorem d_M_generation_270 : decode b_M_generation 270 = .ok (.i2l, 1) := by decide +kernel
theorem d_M_generation_271 : decode b_M_generation 271 = .ok (.ladd, 1) := by decide +kernel
theorem d_M_generation_272 : decode b_M_generation 272 = .ok (.lastore, 1) := by decide +kernel
theorem d_M_generation_273 : decode b_M_generation 273 = .ok (.aload_n 0, 1) := by decide +kernel
theorem d_M_generation_274 : decode b_M_generation 274 = .ok (.getfield 50, 3) := by decide +kernel
theorem d_M_generation_277 : decode b_M_generation 277 = .ok (.iload_n 1, 1) := by decide +kernel
theorem d_M_generation_278 : decode b_M_generation 278 = .ok (.dup2, 1) := by decide +kernel
theorem d_M_generation_279 : decode b_M_generation 279 = .ok (.iaload, 1) := by decide +kernel
theorem d_M_generation_280 : decode b_M_generation 280 = .ok (.iload_n 2, 1) := by decide +kernel
theorem d_M_generation_281 : decode b_M_generation 281 = .ok (.iadd, 1) := by decide +kernel
theorem d_M_generation_282 : decode b_M_generation 282 = .ok (.iastore, 1) := by decide +kernel
theorem d_M_generation_283 : decode b_M_generation 283 = .ok (.aload_n 0, 1) := by decide +kernel
theorem d_M_generation_284 : decode b_M_generation 284 = .ok (.getfield 53, 3) := by decide +kernel
theorem d_M_generation_287 : decode b_M_generation 287 = .ok (.iload_n 1, 1) := by decide +kernel
theorem d_M_generation_288 : decode b_M_generation 288 = .ok (.iload_n 2, 1) := by decide +kernel
theorem d_M_generation_289 : decode b_M_generation 289 = .ok (.iconst 1, 1) := by decide +kernel
theorem d_M_generation_290 : decode b_M_generation 290 = .ok (.if_icmp .ne 10, 3) := by decide +kernel
theorem d_M_generation_293 : decode b_M_generation 293 = .ok (.aload_n 0, 1) := by decide +kernel
theorem d_M_generation_294 : decode b_M_generation 294 = .ok (.getfield 125, 3) := by decide +kernel
theorem d_M_generation_297 : decode b_M_generation 297 = .ok (.goto 9, 3) := by decide +kernel
theorem d_M_generation_300 : decode b_M_generation 300 = .ok (.aload_n 0, 1) := by decide +kernel
theorem d_M_generation_301 : decode b_M_generation 301 = .ok (.getfield 53, 3) := by decide +kernel
theorem d_M_generation_304 : decode b_M_generation 304 = .ok (.iload_n 1, 1) := by decide +kernel
theorem d_M_generation_305 : decode b_M_generation 305 = .ok (.iaload, 1) := by decide +kernel
theorem d_M_generation_306 : decode b_M_generation 306 = .ok (.iastore, 1) := by decide +kernel
theorem d_M_generation_307 : decode b_M_generation 307 = .ok (.iinc 1 1, 3) := by decide +kernel
theorem d_M_generation_310 : decode b_M_generation 310 = .ok (.goto (-85), 3) := by decide +kernel
theorem d_M_generation_313 : decode b_M_generation 313 = .ok (.return_, 1) := by decide +kernel
abbrev b_M_run : ByteArray := prog_9_method_9_code
theorem d_M_run_0 : decode b_M_run 0 = .ok (.aload_n 0, 1) := by decide +kernel
theorem d_M_run_1 : decode b_M_run 1 = .ok (.iconst 0, 1) := by decide +kernel
theorem d_M_run_2 : decode b_M_run 2 = .ok (.putfield 102, 3) := by decide +kernel
theorem d_M_run_5 : decode b_M_run 5 = .ok (.iload_n 1, 1) := by decide +kernel
theorem d_M_run_6 : decode b_M_run 6 = .ok (.iconst 1, 1) := by decide +kernel
theorem d_M_run_7 : decode b_M_run 7 = .ok (.if_icmp .lt 9, 3) := by decide +kernel
theorem d_M_run_10 : decode b_M_run 10 = .ok (.iload_n 1, 1) := by decide +kernel
theorem d_M_run_11 : decode b_M_run 11 = .ok (.bipush 60, 2) := by decide +kernel
theorem d_M_run_13 : decode b_M_run 13 = .ok (.if_icmp .le 5, 3) := by decide +kernel
theorem d_M_run_16 : decode b_M_run 16 = .ok (.iconst (-1), 1) := by decide +kernel
theorem d_M_run_17 : decode b_M_run 17 = .ok (.ireturn, 1) := by decide +kernel
theorem d_M_run_18 : decode b_M_run 18 = .ok (.iconst 0, 1) := by decide +kernel
theorem d_M_run_19 : decode b_M_run 19 = .ok (.istore_n 2, 1) := by decide +kernel
theorem d_M_run_20 : decode b_M_run 20 = .ok (.iload_n 2, 1) := by decide +kernel
theorem d_M_run_21 : decode b_M_run 21 = .ok (.iload_n 1, 1) := by decide +kernel
theorem d_M_run_22 : decode b_M_run 22 = .ok (.if_icmp .ge 13, 3) := by decide +kernel
theorem d_M_run_25 : decode b_M_run 25 = .ok (.aload_n 0, 1) := by decide +kernel
theorem d_M_run_26 : decode b_M_run 26 = .ok (.invokevirtual 137, 3) := by decide +kernel
theorem d_M_run_29 : decode b_M_run 29 = .ok (.iinc 2 1, 3) := by decide +kernel
theorem d_M_run_32 : decode b_M_run 32 = .ok (.goto (-12), 3) := by decide +kernel
theorem d_M_run_35 : decode b_M_run 35 = .ok (.aload_n 0, 1) := by decide +kernel
theorem d_M_run_36 : decode b_M_run 36 = .ok (.iconst 1, 1) := by decide +kernel
theorem d_M_run_37 : decode b_M_run 37 = .ok (.invokevirtual 140, 3) := by decide +kernel
theorem d_M_run_40 : decode b_M_run 40 = .ok (.ireturn, 1) := by decide +kernel
abbrev b_M_back : ByteArray := prog_9_method_10_code
theorem d_M_back_0 : decode b_M_back 0 = .ok (.aload_n 0, 1) := by decide +kernel
theorem d_M_back_1 : decode b_M_back 1 = .ok (.iconst 0, 1) := by decide +kernel
theorem d_M_back_2 : decode b_M_back 2 = .ok (.putfield 102, 3) := by decide +kernel
theorem d_M_back_5 : decode b_M_back 5 = .ok (.iload_n 1, 1) := by decide +kernel
theorem d_M_back_6 : decode b_M_back 6 = .ok (.iconst 1, 1) := by decide +kernel
theorem d_M_back_7 : decode b_M_back 7 = .ok (.if_icmp .lt 11, 3) := by decide +kernel
theorem d_M_back_10 : decode b_M_back 10 = .ok (.iload_n 1, 1) := by decide +kernel
theorem d_M_back_11 : decode b_M_back 11 = .ok (.aload_n 0, 1) := by decide +kernel
theorem d_M_back_12 : decode b_M_back 12 = .ok (.getfield 113, 3) := by decide +kernel
theorem d_M_back_15 : decode b_M_back 15 = .ok (.if_icmp .le 5, 3) := by decide +kernel
theorem d_M_back_18 : decode b_M_back 18 = .ok (.iconst 0, 1) := by decide +kernel
theorem d_M_back_19 : decode b_M_back 19 = .ok (.ireturn, 1) := by decide +kernel
theorem d_M_back_20 : decode b_M_back 20 = .ok (.aload_n 0, 1) := by decide +kernel
theorem d_M_back_21 : decode b_M_back 21 = .ok (.aload_n 0, 1) := by decide +kernel
theorem d_M_back_22 : decode b_M_back 22 = .ok (.getfield 110, 3) := by decide +kernel
theorem d_M_back_25 : decode b_M_back 25 = .ok (.bipush 16, 2) := by decide +kernel
theorem d_M_back_27 : decode b_M_back 27 = .ok (.iadd, 1) := by decide +kernel
theorem d_M_back_28 : decode b_M_back 28 = .ok (.iload_n 1, 1) := by decide +kernel
theorem d_M_back_29 : decode b_M_back 29 = .ok (.isub, 1) := by decide +kernel
theorem d_M_back_30 : decode b_M_back 30 = .ok (.bipush 16, 2) := by decide +kernel
theorem d_M_back_32 : decode b_M_back 32 = .ok (.irem, 1) := by decide +kernel
theorem d_M_back_33 : decode b_M_back 33 = .ok (.putfield 110, 3) := by decide +kernel
theorem d_M_back_36 : decode b_M_back 36 = .ok (.aload_n 0, 1) := by decide +kernel
theorem d_M_back_37 : decode b_M_back 37 = .ok (.dup, 1) := by decide +kernel
theorem d_M_back_38 : decode b_M_back 38 = .ok (.getfield 113, 3) := by decide +kernel
theorem d_M_back_41 : decode b_M_back 41 = .ok (.iload_n 1, 1) := by decide +kernel
theorem d_M_back_42 : decode b_M_back 42 = .ok (.isub, 1) := by decide +kernel
theorem d_M_back_43 : decode b_M_back 43 = .ok (.putfield 113, 3) := by decide +kernel
theorem d_M_back_46 : decode b_M_back 46 = .ok (.aload_n 0, 1) := by decide +kernel
theorem d_M_back_47 : decode b_M_back 47 = .ok (.dup, 1) := by decide +kernel
theorem d_M_back_48 : decode b_M_back 48 = .ok (.getfield 125, 3) := by decide +kernel
theorem d_M_back_51 : decode b_M_back 51 = .ok (.iload_n 1, 1) := by decide +kernel
theorem d_M_back_52 : decode b_M_back 52 = .ok (.isub, 1) := by decide +kernel
theorem d_M_back_53 : decode b_M_back 53 = .ok (.putfield 125, 3) := by decide +kernel
theorem d_M_back_56 : decode b_M_back 56 = .ok (.iconst 0, 1) := by decide +kernel
theorem d_M_back_57 : decode b_M_back 57 = .ok (.istore_n 2, 1) := by decide +kernel
theorem d_M_back_58 : decode b_M_back 58 = .ok (.iload_n 2, 1) := by decide +kernel
theorem d_M_back_59 : decode b_M_back 59 = .ok (.bipush 24, 2) := by decide +kernel
theorem d_M_back_61 : decode b_M_back 61 = .ok (.if_icmp .ge 75, 3) := by decide +kernel
theorem d_M_back_64 : decode b_M_back 64 = .ok (.aload_n 0, 1) := by decide +kernel
theorem d_M_back_65 : decode b_M_back 65 = .ok (.getfield 7, 3) := by decide +kernel
theorem d_M_back_68 : decode b_M_back 68 = .ok (.iload_n 2, 1) := by decide +kernel
theorem d_M_back_69 : decode b_M_back 69 = .ok (.aload_n 0, 1) := by decide +kernel
theorem d_M_back_70 : decode b_M_back 70 = .ok (.getfield 22, 3) := by decide +kernel
theorem d_M_back_73 : decode b_M_back 73 = .ok (.bipush 72, 2) := by decide +kernel
theorem d_M_back_75 : decode b_M_back 75 = .ok (.aload_n 0, 1) := by decide +kernel
theorem d_M_back_76 : decode b_M_back 76 = .ok (.getfield 110, 3) := by decide +kernel
theorem d_M_back_79 : decode b_M_back 79 = .ok (.imul, 1) := by decide +kernel
theorem d_M_back_80 : decode b_M_back 80 = .ok (.iload_n 2, 1) := by decide +kernel
theorem d_M_back_81 : decode b_M_back 81 = .ok (.iadd, 1) := by decide +kernel
theorem d_M_back_82 : decode b_M_back 82 = .ok (.iaload, 1) := by decide +kernel
theorem d_M_back_83 : decode b_M_back 83 = .ok (.iastore, 1) := by decide +kernel
theorem d_M_back_84 : decode b_M_back 84 = .ok (.aload_n 0, 1) := by decide +kernel
theorem d_M_back_85 : decode b_M_back 85 = .ok (.getfield 13, 3) := by decide +kernel
theorem d_M_back_88 : decode b_M_back 88 = .ok (.iload_n 2, 1) := by decide +kernel
theorem d_M_back_89 : decode b_M_back 89 = .ok (.aload_n 0, 1) := by decide +kernel
theorem d_M_back_90 : decode b_M_back 90 = .ok (.getfield 22, 3) := by decide +kernel
theorem d_M_back_93 : decode b_M_back 93 = .ok (.bipush 72, 2) := by decide +kernel
theorem d_M_back_95 : decode b_M_back 95 = .ok (.aload_n 0, 1) := by decide +kernel
theorem d_M_back_96 : decode b_M_back 96 = .ok (.getfield 110, 3) := by decide +kernel
theorem d_M_back_99 : decode b_M_back 99 = .ok (.imul, 1) := by decide +kernel
theorem d_M_back_100 : decode b_M_back 100 = .ok (.bipush 24, 2) := by decide +kernel
theorem d_M_back_102 : decode b_M_back 102 = .ok (.iadd, 1) := by decide +kernel
theorem d_M_back_103 : decode b_M_back 103 = .ok (.iload_n 2, 1) := by decide +kernel
theorem d_M_back_104 : decode b_M_back 104 = .ok (.iadd, 1) := by decide +kernel
theorem d_M_back_105 : decode b_M_back 105 = .ok (.iaload, 1) := by decide +kernel
theorem d_M_back_106 : decode b_M_back 106 = .ok (.iastore, 1) := by decide +kernel
theorem d_M_back_107 : decode b_M_back 107 = .ok (.aload_n 0, 1) := by decide +kernel
theorem d_M_back_108 : decode b_M_back 108 = .ok (.getfield 16, 3) := by decide +kernel
theorem d_M_back_111 : decode b_M_back 111 = .ok (.iload_n 2, 1) := by decide +kernel
theorem d_M_back_112 : decode b_M_back 112 = .ok (.aload_n 0, 1) := by decide +kernel
theorem d_M_back_113 : decode b_M_back 113 = .ok (.getfield 22, 3) := by decide +kernel
theorem d_M_back_116 : decode b_M_back 116 = .ok (.bipush 72, 2) := by decide +kernel
theorem d_M_back_118 : decode b_M_back 118 = .ok (.aload_n 0, 1) := by decide +kernel
theorem d_M_back_119 : decode b_M_back 119 = .ok (.getfield 110, 3) := by decide +kernel
theorem d_M_back_122 : decode b_M_back 122 = .ok (.imul, 1) := by decide +kernel
theorem d_M_back_123 : decode b_M_back 123 = .ok (.bipush 48, 2) := by decide +kernel
theorem d_M_back_125 : decode b_M_back 125 = .ok (.iadd, 1) := by decide +kernel
theorem d_M_back_126 : decode b_M_back 126 = .ok (.iload_n 2, 1) := by decide +kernel
theorem d_M_back_127 : decode b_M_back 127 = .ok (.iadd, 1) := by decide +kernel
theorem d_M_back_128 : decode b_M_back 128 = .ok (.iaload, 1) := by decide +kernel
theorem d_M_back_129 : decode b_M_back 129 = .ok (.iastore, 1) := by decide +kernel
theorem d_M_back_130 : decode b_M_back 130 = .ok (.iinc 2 1, 3) := by decide +kernel
theorem d_M_back_133 : decode b_M_back 133 = .ok (.goto (-75), 3) := by decide +kernel
theorem d_M_back_136 : decode b_M_back 136 = .ok (.iconst 0, 1) := by decide +kernel
theorem d_M_back_137 : decode b_M_back 137 = .ok (.istore_n 2, 1) := by decide +kernel
theorem d_M_back_138 : decode b_M_back 138 = .ok (.iload_n 2, 1) := by decide +kernel
theorem d_M_back_139 : decode b_M_back 139 = .ok (.iconst 4, 1) := by decide +kernel
theorem d_M_back_140 : decode b_M_back 140 = .ok (.if_icmp .ge 28, 3) := by decide +kernel
theorem d_M_back_143 : decode b_M_back 143 = .ok (.aload_n 0, 1) := by decide +kernel
theorem d_M_back_144 : decode b_M_back 144 = .ok (.getfield 41, 3) := by decide +kernel
theorem d_M_back_147 : decode b_M_back 147 = .ok (.iload_n 2, 1) := by decide +kernel
theorem d_M_back_148 : decode b_M_back 148 = .ok (.aload_n 0, 1) := by decide +kernel
theorem d_M_back_149 : decode b_M_back 149 = .ok (.getfield 25, 3) := by decide +kernel
theorem d_M_back_152 : decode b_M_back 152 = .ok (.iconst 4, 1) := by decide +kernel
theorem d_M_back_153 : decode b_M_back 153 = .ok (.aload_n 0, 1) := by decide +kernel
theorem d_M_back_154 : decode b_M_back 154 = .ok (.getfield 110, 3) := by decide +kernel
theorem d_M_back_157 : decode b_M_back 157 = .ok (.imul, 1) := by decide +kernel
theorem d_M_back_158 : decode b_M_back 158 = .ok (.iload_n 2, 1) := by decide +kernel
theorem d_M_back_159 : decode b_M_back 159 = .ok (.iadd, 1) := by decide +kernel
theorem d_M_back_160 : decode b_M_back 160 = .ok (.iaload, 1) := by decide +kernel
theorem d_M_back_161 : decode b_M_back 161 = .ok (.iastore, 1) := by decide +kernel
theorem d_M_back_162 : decode b_M_back 162 = .ok (.iinc 2 1, 3) := by decide +kernel
theorem d_M_back_165 : decode b_M_back 165 = .ok (.goto (-27), 3) := by decide +kernel
theorem d_M_back_168 : decode b_M_back 168 = .ok (.iconst 1, 1) := by decide +kernel
theorem d_M_back_169 : decode b_M_back 169 = .ok (.ireturn, 1) := by decide +kernel
abbrev b_M_period : ByteArray := prog_9_method_11_code
theorem d_M_period_0 : decode b_M_period 0 = .ok (.aload_n 0, 1) := by decide +kernel
theorem d_M_period_1 : decode b_M_period 1 = .ok (.iconst 0, 1) := by decide +kernel
theorem d_M_period_2 : decode b_M_period 2 = .ok (.putfield 102, 3) := by decide +kernel
theorem d_M_period_5 : decode b_M_period 5 = .ok (.iconst 1, 1) := by decide +kernel
theorem d_M_period_6 : decode b_M_period 6 = .ok (.istore_n 1, 1) := by decide +kernel
theorem d_M_period_7 : decode b_M_period 7 = .ok (.iload_n 1, 1) := by decide +kernel
theorem d_M_period_8 : decode b_M_period 8 = .ok (.aload_n 0, 1) := by decide +kernel
theorem d_M_period_9 : decode b_M_period 9 = .ok (.getfield 113, 3) := by decide +kernel
theorem d_M_period_12 : decode b_M_period 12 = .ok (.if_icmp .gt 122, 3) := by decide +kernel
theorem d_M_period_15 : decode b_M_period 15 = .ok (.bipush 72, 2) := by decide +kernel
theorem d_M_period_17 : decode b_M_period 17 = .ok (.aload_n 0, 1) := by decide +kernel
theorem d_M_period_18 : decode b_M_period 18 = .ok (.getfield 110, 3) := by decide +kernel
theorem d_M_period_21 : decode b_M_period 21 = .ok (.bipush 16, 2) := by decide +kernel
theorem d_M_period_23 : decode b_M_period 23 = .ok (.iadd, 1) := by decide +kernel
theorem d_M_period_24 : decode b_M_period 24 = .ok (.iload_n 1, 1) := by decide +kernel
theorem d_M_period_25 : decode b_M_period 25 = .ok (.isub, 1) := by decide +kernel
theorem d_M_period_26 : decode b_M_period 26 = .ok (.bipush 16, 2) := by decide +kernel
theorem d_M_period_28 : decode b_M_period 28 = .ok (.irem, 1) := by decide +kernel
theorem d_M_period_29 : decode b_M_period 29 = .ok (.imul, 1) := by decide +kernel
theorem d_M_period_30 : decode b_M_period 30 = .ok (.istore_n 2, 1) := by decide +kernel
theorem d_M_period_31 : decode b_M_period 31 = .ok (.iconst 1, 1) := by decide +kernel
theorem d_M_period_32 : decode b_M_period 32 = .ok (.istore_n 3, 1) := by decide +kernel
theorem d_M_period_33 : decode b_M_period 33 = .ok (.iconst 0, 1) := by decide +kernel
theorem d_M_period_34 : decode b_M_period 34 = .ok (.istore 4, 2) := by decide +kernel
theorem d_M_period_36 : decode b_M_period 36 = .ok (.iload 4, 2) := by decide +kernel
theorem d_M_period_38 : decode b_M_period 38 = .ok (.bipush 24, 2) := by decide +kernel
theorem d_M_period_40 : decode b_M_period 40 = .ok (.if_icmp .ge 82, 3) := by decide +kernel
theorem d_M_period_43 : decode b_M_period 43 = .ok (.iload_n 3, 1) := by decide +kernel
theorem d_M_period_44 : decode b_M_period 44 = .ok (.ifCond .eq 70, 3) := by decide +kernel
theorem d_M_period_47 : decode b_M_period 47 = .ok (.aload_n 0, 1) := by decide +kernel
theorem d_M_period_48 : decode b_M_period 48 = .ok (.getfield 22, 3) := by decide +kernel
theorem d_M_period_51 : decode b_M_period 51 = .ok (.iload_n 2, 1) := by decide +kernel
theorem d_M_period_52 : decode b_M_period 52 = .ok (.iload 4, 2) := by decide +kernel
theorem d_M_period_54 : decode b_M_period 54 = .ok (.iadd, 1) := by decide +kernel
theorem d_M_period_55 : decode b_M_period 55 = .ok (.iaload, 1) := by decide +kernel
theorem d_M_period_56 : decode b_M_period 56 = .ok (.aload_n 0, 1) := by decide +kernel
theorem d_M_period_57 : decode b_M_period 57 = .ok (.getfield 7, 3) := by decide +kernel
theorem d_M_period_60 : decode b_M_period 60 = .ok (.iload 4, 2) := by decide +kernel
theorem d_M_period_62 : decode b_M_period 62 = .ok (.iaload, 1) := by decide +kernel
theorem d_M_period_63 : decode b_M_period 63 = .ok (.if_icmp .ne 51, 3) := by decide +kernel
theorem d_M_period_66 : decode b_M_period 66 = .ok (.aload_n 0, 1) := by decide +kernel
theorem d_M_period_67 : decode b_M_period 67 = .ok (.getfield 22, 3) := by decide +kernel
theorem d_M_period_70 : decode b_M_period 70 = .ok (.iload_n 2, 1) := by decide +kernel
theorem d_M_period_71 : decode b_M_period 71 = .ok (.bipush 24, 2) := by decide +kernel
theorem d_M_period_73 : decode b_M_period 73 = .ok (.iadd, 1) := by decide +kernel
theorem d_M_period_74 : decode b_M_period 74 = .ok (.iload 4, 2) := by decide +kernel
theorem d_M_period_76 : decode b_M_period 76 = .ok (.iadd, 1) := by decide +kernel
theorem d_M_period_77 : decode b_M_period 77 = .ok (.iaload, 1) := by decide +kernel
theorem d_M_period_78 : decode b_M_period 78 = .ok (.aload_n 0, 1) := by decide +kernel
theorem d_M_period_79 : decode b_M_period 79 = .ok (.getfield 13, 3) := by decide +kernel
theorem d_M_period_82 : decode b_M_period 82 = .ok (.iload 4, 2) := by decide +kernel
theorem d_M_period_84 : decode b_M_period 84 = .ok (.iaload, 1) := by decide +kernel
theorem d_M_period_85 : decode b_M_period 85 = .ok (.if_icmp .ne 29, 3) := by decide +kernel
theorem d_M_period_88 : decode b_M_period 88 = .ok (.aload_n 0, 1) := by decide +kernel
theorem d_M_period_89 : decode b_M_period 89 = .ok (.getfield 22, 3) := by decide +kernel
theorem d_M_period_92 : decode b_M_period 92 = .ok (.iload_n 2, 1) := by decide +kernel
theorem d_M_period_93 : decode b_M_period 93 = .ok (.bipush 48, 2) := by decide +kernel
theorem d_M_period_95 : decode b_M_period 95 = .ok (.iadd, 1) := by decide +kernel
theorem d_M_period_96 : decode b_M_period 96 = .ok (.iload 4, 2) := by decide +kernel
theorem d_M_period_98 : decode b_M_period 98 = .ok (.iadd, 1) := by decide +kernel
theorem d_M_period_99 : decode b_M_period 99 = .ok (.iaload, 1) := by decide +kernel
theorem d_M_period_100 : decode b_M_period 100 = .ok (.aload_n 0, 1) := by decide +kernel
theorem d_M_period_101 : decode b_M_period 101 = .ok (.getfield 16, 3) := by decide +kernel
theorem d_M_period_104 : decode b_M_period 104 = .ok (.iload 4, 2) := by decide +kernel
theorem d_M_period_106 : decode b_M_period 106 = .ok (.iaload, 1) := by decide +kernel
theorem d_M_period_107 : decode b_M_period 107 = .ok (.if_icmp .ne 7, 3) := by decide +kernel
theorem d_M_period_110 : decode b_M_period 110 = .ok (.iconst 1, 1) := by decide +kernel
theorem d_M_period_111 : decode b_M_period 111 = .ok (.goto 4, 3) := by decide +kernel
theorem d_M_period_114 : decode b_M_period 114 = .ok (.iconst 0, 1) := by decide +kernel
theorem d_M_period_115 : decode b_M_period 115 = .ok (.istore_n 3, 1) := by decide +kernel
theorem d_M_period_116 : decode b_M_period 116 = .ok (.iinc 4 1, 3) := by decide +kernel
theorem d_M_period_119 : decode b_M_period 119 = .ok (.goto (-83), 3) := by decide +kernel
theorem d_M_period_122 : decode b_M_period 122 = .ok (.iload_n 3, 1) := by decide +kernel
theorem d_M_period_123 : decode b_M_period 123 = .ok (.ifCond .eq 5, 3) := by decide +kernel
theorem d_M_period_126 : decode b_M_period 126 = .ok (.iload_n 1, 1) := by decide +kernel
theorem d_M_period_127 : decode b_M_period 127 = .ok (.ireturn, 1) := by decide +kernel
theorem d_M_period_128 : decode b_M_period 128 = .ok (.iinc 1 1, 3) := by decide +kernel
theorem d_M_period_131 : decode b_M_period 131 = .ok (.goto (-124), 3) := by decide +kernel
theorem d_M_period_134 : decode b_M_period 134 = .ok (.iconst 0, 1) := by decide +kernel
theorem d_M_period_135 : decode b_M_period 135 = .ok (.ireturn, 1) := by decide +kernel
abbrev b_M_type : ByteArray := prog_9_method_12_code
theorem d_M_type_0 : decode b_M_type 0 = .ok (.aload_n 0, 1) := by decide +kernel
theorem d_M_type_1 : decode b_M_type 1 = .ok (.iconst 0, 1) := by decide +kernel
theorem d_M_type_2 : decode b_M_type 2 = .ok (.putfield 102, 3) := by decide +kernel
theorem d_M_type_5 : decode b_M_type 5 = .ok (.iload_n 1, 1) := by decide +kernel
theorem d_M_type_6 : decode b_M_type 6 = .ok (.bipush 33, 2) := by decide +kernel
theorem d_M_type_8 : decode b_M_type 8 = .ok (.if_icmp .lt 20, 3) := by decide +kernel
theorem d_M_type_11 : decode b_M_type 11 = .ok (.iload_n 1, 1) := by decide +kernel
theorem d_M_type_12 : decode b_M_type 12 = .ok (.bipush 126, 2) := by decide +kernel
theorem d_M_type_14 : decode b_M_type 14 = .ok (.if_icmp .gt 14, 3) := by decide +kernel
theorem d_M_type_17 : decode b_M_type 17 = .ok (.aload_n 0, 1) := by decide +kernel
theorem d_M_type_18 : decode b_M_type 18 = .ok (.getfield 62, 3) := by decide +kernel
theorem d_M_type_21 : decode b_M_type 21 = .ok (.iconst 4, 1) := by decide +kernel
theorem d_M_type_22 : decode b_M_type 22 = .ok (.iaload, 1) := by decide +kernel
theorem d_M_type_23 : decode b_M_type 23 = .ok (.bipush 60, 2) := by decide +kernel
theorem d_M_type_25 : decode b_M_type 25 = .ok (.if_icmp .ne 5, 3) := by decide +kernel
theorem d_M_type_28 : decode b_M_type 28 = .ok (.iconst 0, 1) := by decide +kernel
theorem d_M_type_29 : decode b_M_type 29 = .ok (.ireturn, 1) := by decide +kernel
theorem d_M_type_30 : decode b_M_type 30 = .ok (.aload_n 0, 1) := by decide +kernel
theorem d_M_type_31 : decode b_M_type 31 = .ok (.getfield 59, 3) := by decide +kernel
theorem d_M_type_34 : decode b_M_type 34 = .ok (.sipush 240, 3) := by decide +kernel
theorem d_M_type_37 : decode b_M_type 37 = .ok (.aload_n 0, 1) := by decide +kernel
theorem d_M_type_38 : decode b_M_type 38 = .ok (.getfield 62, 3) := by decide +kernel
theorem d_M_type_41 : decode b_M_type 41 = .ok (.iconst 4, 1) := by decide +kernel
theorem d_M_type_42 : decode b_M_type 42 = .ok (.iaload, 1) := by decide +kernel
theorem d_M_type_43 : decode b_M_type 43 = .ok (.iadd, 1) := by decide +kernel
theorem d_M_type_44 : decode b_M_type 44 = .ok (.iload_n 1, 1) := by decide +kernel
theorem d_M_type_45 : decode b_M_type 45 = .ok (.iastore, 1) := by decide +kernel
theorem d_M_type_46 : decode b_M_type 46 = .ok (.aload_n 0, 1) := by decide +kernel
theorem d_M_type_47 : decode b_M_type 47 = .ok (.getfield 62, 3) := by decide +kernel
theorem d_M_type_50 : decode b_M_type 50 = .ok (.iconst 4, 1) := by decide +kernel
theorem d_M_type_51 : decode b_M_type 51 = .ok (.dup2, 1) := by decide +kernel
theorem d_M_type_52 : decode b_M_type 52 = .ok (.iaload, 1) := by decide +kernel
theorem d_M_type_53 : decode b_M_type 53 = .ok (.iconst 1, 1) := by decide +kernel
theorem d_M_type_54 : decode b_M_type 54 = .ok (.iadd, 1) := by decide +kernel
theorem d_M_type_55 : decode b_M_type 55 = .ok (.iastore, 1) := by decide +kernel
theorem d_M_type_56 : decode b_M_type 56 = .ok (.iconst 1, 1) := by decide +kernel
theorem d_M_type_57 : decode b_M_type 57 = .ok (.ireturn, 1) := by decide +kernel
abbrev b_M_wipe : ByteArray := prog_9_method_13_code
theorem d_M_wipe_0 : decode b_M_wipe 0 = .ok (.aload_n 0, 1) := by decide +kernel
theorem d_M_wipe_1 : decode b_M_wipe 1 = .ok (.iconst 0, 1) := by decide +kernel
theorem d_M_wipe_2 : decode b_M_wipe 2 = .ok (.putfield 102, 3) := by decide +kernel
theorem d_M_wipe_5 : decode b_M_wipe 5 = .ok (.aload_n 0, 1) := by decide +kernel
theorem d_M_wipe_6 : decode b_M_wipe 6 = .ok (.getfield 62, 3) := by decide +kernel
theorem d_M_wipe_9 : decode b_M_wipe 9 = .ok (.iconst 4, 1) := by decide +kernel
theorem d_M_wipe_10 : decode b_M_wipe 10 = .ok (.iconst 0, 1) := by decide +kernel
theorem d_M_wipe_11 : decode b_M_wipe 11 = .ok (.iastore, 1) := by decide +kernel
theorem d_M_wipe_12 : decode b_M_wipe 12 = .ok (.return_, 1) := by decide +kernel
abbrev b_M_sign : ByteArray := prog_9_method_14_code
theorem d_M_sign_0 : decode b_M_sign 0 = .ok (.iload_n 2, 1) := by decide +kernel
theorem d_M_sign_1 : decode b_M_sign 1 = .ok (.aload_n 0, 1) := by decide +kernel
theorem d_M_sign_2 : decode b_M_sign 2 = .ok (.getfield 62, 3) := by decide +kernel
theorem d_M_sign_5 : decode b_M_sign 5 = .ok (.iload_n 1, 1) := by decide +kernel
theorem d_M_sign_6 : decode b_M_sign 6 = .ok (.iaload, 1) := by decide +kernel
theorem d_M_sign_7 : decode b_M_sign 7 = .ok (.if_icmp .ge 17, 3) := by decide +kernel
theorem d_M_sign_10 : decode b_M_sign 10 = .ok (.aload_n 0, 1) := by decide +kernel
theorem d_M_sign_11 : decode b_M_sign 11 = .ok (.getfield 59, 3) := by decide +kernel
theorem d_M_sign_14 : decode b_M_sign 14 = .ok (.bipush 60, 2) := by decide +kernel
theorem d_M_sign_16 : decode b_M_sign 16 = .ok (.iload_n 1, 1) := by decide +kernel
theorem d_M_sign_17 : decode b_M_sign 17 = .ok (.imul, 1) := by decide +kernel
theorem d_M_sign_18 : decode b_M_sign 18 = .ok (.iload_n 2, 1) := by decide +kernel
theorem d_M_sign_19 : decode b_M_sign 19 = .ok (.iadd, 1) := by decide +kernel
theorem d_M_sign_20 : decode b_M_sign 20 = .ok (.iaload, 1) := by decide +kernel
theorem d_M_sign_21 : decode b_M_sign 21 = .ok (.goto 4, 3) := by decide +kernel
theorem d_M_sign_24 : decode b_M_sign 24 = .ok (.iconst 0, 1) := by decide +kernel
theorem d_M_sign_25 : decode b_M_sign 25 = .ok (.ireturn, 1) := by decide +kernel
abbrev b_M_digit : ByteArray := prog_9_method_15_code
theorem d_M_digit_0 : decode b_M_digit 0 = .ok (.iload_n 0, 1) := by decide +kernel
theorem d_M_digit_1 : decode b_M_digit 1 = .ok (.bipush 47, 2) := by decide +kernel
theorem d_M_digit_3 : decode b_M_digit 3 = .ok (.if_icmp .le 13, 3) := by decide +kernel
theorem d_M_digit_6 : decode b_M_digit 6 = .ok (.iload_n 0, 1) := by decide +kernel
theorem d_M_digit_7 : decode b_M_digit 7 = .ok (.bipush 58, 2) := by decide +kernel
theorem d_M_digit_9 : decode b_M_digit 9 = .ok (.if_icmp .ge 7, 3) := by decide +kernel
theorem d_M_digit_12 : decode b_M_digit 12 = .ok (.iconst 1, 1) := by decide +kernel
theorem d_M_digit_13 : decode b_M_digit 13 = .ok (.goto 4, 3) := by decide +kernel
theorem d_M_digit_16 : decode b_M_digit 16 = .ok (.iconst 0, 1) := by decide +kernel
theorem d_M_digit_17 : decode b_M_digit 17 = .ok (.ireturn, 1) := by decide +kernel
abbrev b_M_single : ByteArray := prog_9_method_16_code
theorem d_M_single_0 : decode b_M_single 0 = .ok (.iload_n 0, 1) := by decide +kernel
theorem d_M_single_1 : decode b_M_single 1 = .ok (.bipush 70, 2) := by decide +kernel
theorem d_M_single_3 : decode b_M_single 3 = .ok (.if_icmp .eq 51, 3) := by decide +kernel
theorem d_M_single_6 : decode b_M_single 6 = .ok (.iload_n 0, 1) := by decide +kernel
theorem d_M_single_7 : decode b_M_single 7 = .ok (.bipush 66, 2) := by decide +kernel
theorem d_M_single_9 : decode b_M_single 9 = .ok (.if_icmp .eq 45, 3) := by decide +kernel
theorem d_M_single_12 : decode b_M_single 12 = .ok (.iload_n 0, 1) := by decide +kernel
theorem d_M_single_13 : decode b_M_single 13 = .ok (.bipush 82, 2) := by decide +kernel
theorem d_M_single_15 : decode b_M_single 15 = .ok (.if_icmp .eq 39, 3) := by decide +kernel
theorem d_M_single_18 : decode b_M_single 18 = .ok (.iload_n 0, 1) := by decide +kernel
theorem d_M_single_19 : decode b_M_single 19 = .ok (.bipush 76, 2) := by decide +kernel
theorem d_M_single_21 : decode b_M_single 21 = .ok (.if_icmp .eq 33, 3) := by decide +kernel
theorem d_M_single_24 : decode b_M_single 24 = .ok (.iload_n 0, 1) := by decide +kernel
theorem d_M_single_25 : decode b_M_single 25 = .ok (.bipush 85, 2) := by decide +kernel
theorem d_M_single_27 : decode b_M_single 27 = .ok (.if_icmp .eq 27, 3) := by decide +kernel
theorem d_M_single_30 : decode b_M_single 30 = .ok (.iload_n 0, 1) := by decide +kernel
theorem d_M_single_31 : decode b_M_single 31 = .ok (.bipush 68, 2) := by decide +kernel
theorem d_M_single_33 : decode b_M_single 33 = .ok (.if_icmp .eq 21, 3) := by decide +kernel
theorem d_M_single_36 : decode b_M_single 36 = .ok (.iload_n 0, 1) := by decide +kernel
theorem d_M_single_37 : decode b_M_single 37 = .ok (.bipush 69, 2) := by decide +kernel
theorem d_M_single_39 : decode b_M_single 39 = .ok (.if_icmp .eq 15, 3) := by decide +kernel
theorem d_M_single_42 : decode b_M_single 42 = .ok (.iload_n 0, 1) := by decide +kernel
theorem d_M_single_43 : decode b_M_single 43 = .ok (.bipush 87, 2) := by decide +kernel
theorem d_M_single_45 : decode b_M_single 45 = .ok (.if_icmp .eq 9, 3) := by decide +kernel
theorem d_M_single_48 : decode b_M_single 48 = .ok (.iload_n 0, 1) := by decide +kernel
theorem d_M_single_49 : decode b_M_single 49 = .ok (.bipush 60, 2) := by decide +kernel
theorem d_M_single_51 : decode b_M_single 51 = .ok (.if_icmp .ne 7, 3) := by decide +kernel
theorem d_M_single_54 : decode b_M_single 54 = .ok (.iconst 1, 1) := by decide +kernel
theorem d_M_single_55 : decode b_M_single 55 = .ok (.goto 4, 3) := by decide +kernel
theorem d_M_single_58 : decode b_M_single 58 = .ok (.iconst 0, 1) := by decide +kernel
theorem d_M_single_59 : decode b_M_single 59 = .ok (.ireturn, 1) := by decide +kernel
abbrev b_M_reads : ByteArray := prog_9_method_17_code
theorem d_M_reads_0 : decode b_M_reads 0 = .ok (.iconst 0, 1) := by decide +kernel
theorem d_M_reads_1 : decode b_M_reads 1 = .ok (.istore_n 1, 1) := by decide +kernel
theorem d_M_reads_2 : decode b_M_reads 2 = .ok (.iconst 0, 1) := by decide +kernel
theorem d_M_reads_3 : decode b_M_reads 3 = .ok (.istore_n 2, 1) := by decide +kernel
theorem d_M_reads_4 : decode b_M_reads 4 = .ok (.iconst 0, 1) := by decide +kernel
theorem d_M_reads_5 : decode b_M_reads 5 = .ok (.istore_n 3, 1) := by decide +kernel
theorem d_M_reads_6 : decode b_M_reads 6 = .ok (.aload_n 0, 1) := by decide +kernel
theorem d_M_reads_7 : decode b_M_reads 7 = .ok (.getfield 65, 3) := by decide +kernel
theorem d_M_reads_10 : decode b_M_reads 10 = .ok (.iconst 4, 1) := by decide +kernel
theorem d_M_reads_11 : decode b_M_reads 11 = .ok (.iconst 0, 1) := by decide +kernel
theorem d_M_reads_12 : decode b_M_reads 12 = .ok (.iastore, 1) := by decide +kernel
theorem d_M_reads_13 : decode b_M_reads 13 = .ok (.iload_n 1, 1) := by decide +kernel
theorem d_M_reads_14 : decode b_M_reads 14 = .ok (.aload_n 0, 1) := by decide +kernel
theorem d_M_reads_15 : decode b_M_reads 15 = .ok (.getfield 62, 3) := by decide +kernel
theorem d_M_reads_18 : decode b_M_reads 18 = .ok (.iconst 4, 1) := by decide +kernel
theorem d_M_reads_19 : decode b_M_reads 19 = .ok (.iaload, 1) := by decide +kernel
theorem d_M_reads_20 : decode b_M_reads 20 = .ok (.if_icmp .ge 242, 3) := by decide +kernel
theorem d_M_reads_23 : decode b_M_reads 23 = .ok (.iconst 0, 1) := by decide +kernel
theorem d_M_reads_24 : decode b_M_reads 24 = .ok (.istore 4, 2) := by decide +kernel
theorem d_M_reads_26 : decode b_M_reads 26 = .ok (.iload 4, 2) := by decide +kernel
theorem d_M_reads_28 : decode b_M_reads 28 = .ok (.iconst 3, 1) := by decide +kernel
theorem d_M_reads_29 : decode b_M_reads 29 = .ok (.if_icmp .ge 24, 3) := by decide +kernel
theorem d_M_reads_32 : decode b_M_reads 32 = .ok (.aload_n 0, 1) := by decide +kernel
theorem d_M_reads_33 : decode b_M_reads 33 = .ok (.iconst 4, 1) := by decide +kernel
theorem d_M_reads_34 : decode b_M_reads 34 = .ok (.iload_n 1, 1) := by decide +kernel
theorem d_M_reads_35 : decode b_M_reads 35 = .ok (.invokevirtual 143, 3) := by decide +kernel
theorem d_M_reads_38 : decode b_M_reads 38 = .ok (.invokestatic 145, 3) := by decide +kernel
theorem d_M_reads_41 : decode b_M_reads 41 = .ok (.ifCond .eq 12, 3) := by decide +kernel
theorem d_M_reads_44 : decode b_M_reads 44 = .ok (.iinc 4 1, 3) := by decide +kernel
theorem d_M_reads_47 : decode b_M_reads 47 = .ok (.iinc 1 1, 3) := by decide +kernel
theorem d_M_reads_50 : decode b_M_reads 50 = .ok (.goto (-24), 3) := by decide +kernel
theorem d_M_reads_53 : decode b_M_reads 53 = .ok (.aload_n 0, 1) := by decide +kernel
theorem d_M_reads_54 : decode b_M_reads 54 = .ok (.iconst 4, 1) := by decide +kernel
theorem d_M_reads_55 : decode b_M_reads 55 = .ok (.iload_n 1, 1) := by decide +kernel
theorem d_M_reads_56 : decode b_M_reads 56 = .ok (.invokevirtual 143, 3) := by decide +kernel
theorem d_M_reads_59 : decode b_M_reads 59 = .ok (.istore 5, 2) := by decide +kernel
theorem d_M_reads_61 : decode b_M_reads 61 = .ok (.iload 5, 2) := by decide +kernel
theorem d_M_reads_63 : decode b_M_reads 63 = .ok (.bipush 40, 2) := by decide +kernel
theorem d_M_reads_65 : decode b_M_reads 65 = .ok (.if_icmp .eq 10, 3) := by decide +kernel
theorem d_M_reads_68 : decode b_M_reads 68 = .ok (.iload 5, 2) := by decide +kernel
theorem d_M_reads_70 : decode b_M_reads 70 = .ok (.bipush 91, 2) := by decide +kernel
theorem d_M_reads_72 : decode b_M_reads 72 = .ok (.if_icmp .ne 7, 3) := by decide +kernel
theorem d_M_reads_75 : decode b_M_reads 75 = .ok (.iconst 1, 1) := by decide +kernel
theorem d_M_reads_76 : decode b_M_reads 76 = .ok (.goto 4, 3) := by decide +kernel
theorem d_M_reads_79 : decode b_M_reads 79 = .ok (.iconst 0, 1) := by decide +kernel
theorem d_M_reads_80 : decode b_M_reads 80 = .ok (.istore 6, 2) := by decide +kernel
theorem d_M_reads_82 : decode b_M_reads 82 = .ok (.iload 5, 2) := by decide +kernel
theorem d_M_reads_84 : decode b_M_reads 84 = .ok (.bipush 41, 2) := by decide +kernel
theorem d_M_reads_86 : decode b_M_reads 86 = .ok (.if_icmp .eq 10, 3) := by decide +kernel
theorem d_M_reads_89 : decode b_M_reads 89 = .ok (.iload 5, 2) := by decide +kernel
theorem d_M_reads_91 : decode b_M_reads 91 = .ok (.bipush 93, 2) := by decide +kernel
theorem d_M_reads_93 : decode b_M_reads 93 = .ok (.if_icmp .ne 7, 3) := by decide +kernel
theorem d_M_reads_96 : decode b_M_reads 96 = .ok (.iconst 1, 1) := by decide +kernel
theorem d_M_reads_97 : decode b_M_reads 97 = .ok (.goto 4, 3) := by decide +kernel
theorem d_M_reads_100 : decode b_M_reads 100 = .ok (.iconst 0, 1) := by decide +kernel
theorem d_M_reads_101 : decode b_M_reads 101 = .ok (.istore 7, 2) := by decide +kernel
theorem d_M_reads_103 : decode b_M_reads 103 = .ok (.iload 4, 2) := by decide +kernel
theorem d_M_reads_105 : decode b_M_reads 105 = .ok (.iconst 2, 1) := by decide +kernel
theorem d_M_reads_106 : decode b_M_reads 106 = .ok (.if_icmp .gt 45, 3) := by decide +kernel
theorem d_M_reads_109 : decode b_M_reads 109 = .ok (.iload 7, 2) := by decide +kernel
theorem d_M_reads_111 : decode b_M_reads 111 = .ok (.ifCond .eq 30, 3) := by decide +kernel
theorem d_M_reads_114 : decode b_M_reads 114 = .ok (.iload 4, 2) := by decide +kernel
theorem d_M_reads_116 : decode b_M_reads 116 = .ok (.ifCond .gt 35, 3) := by decide +kernel
theorem d_M_reads_119 : decode b_M_reads 119 = .ok (.iload_n 2, 1) := by decide +kernel
theorem d_M_reads_120 : decode b_M_reads 120 = .ok (.ifCond .eq 31, 3) := by decide +kernel
theorem d_M_reads_123 : decode b_M_reads 123 = .ok (.iload_n 3, 1) := by decide +kernel
theorem d_M_reads_124 : decode b_M_reads 124 = .ok (.iconst 2, 1) := by decide +kernel
theorem d_M_reads_125 : decode b_M_reads 125 = .ok (.irem, 1) := by decide +kernel
theorem d_M_reads_126 : decode b_M_reads 126 = .ok (.iload 5, 2) := by decide +kernel
theorem d_M_reads_128 : decode b_M_reads 128 = .ok (.bipush 41, 2) := by decide +kernel
theorem d_M_reads_130 : decode b_M_reads 130 = .ok (.if_icmp .ne 7, 3) := by decide +kernel
theorem d_M_reads_133 : decode b_M_reads 133 = .ok (.iconst 0, 1) := by decide +kernel
theorem d_M_reads_134 : decode b_M_reads 134 = .ok (.goto 4, 3) := by decide +kernel
theorem d_M_reads_137 : decode b_M_reads 137 = .ok (.iconst 1, 1) := by decide +kernel
theorem d_M_reads_138 : decode b_M_reads 138 = .ok (.if_icmp .ne 13, 3) := by decide +kernel
theorem d_M_reads_141 : decode b_M_reads 141 = .ok (.iload 6, 2) := by decide +kernel
theorem d_M_reads_143 : decode b_M_reads 143 = .ok (.ifCond .eq 10, 3) := by decide +kernel
theorem d_M_reads_146 : decode b_M_reads 146 = .ok (.iload_n 2, 1) := by decide +kernel
theorem d_M_reads_147 : decode b_M_reads 147 = .ok (.iconst 3, 1) := by decide +kernel
theorem d_M_reads_148 : decode b_M_reads 148 = .ok (.if_icmp .ne 5, 3) := by decide +kernel
theorem d_M_reads_151 : decode b_M_reads 151 = .ok (.iconst 0, 1) := by decide +kernel
theorem d_M_reads_152 : decode b_M_reads 152 = .ok (.ireturn, 1) := by decide +kernel
theorem d_M_reads_153 : decode b_M_reads 153 = .ok (.iload 6, 2) := by decide +kernel
theorem d_M_reads_155 : decode b_M_reads 155 = .ok (.ifCond .eq 26, 3) := by decide +kernel
theorem d_M_reads_158 : decode b_M_reads 158 = .ok (.iinc 2 1, 3) := by decide +kernel
theorem d_M_reads_161 : decode b_M_reads 161 = .ok (.iconst 2, 1) := by decide +kernel
theorem d_M_reads_162 : decode b_M_reads 162 = .ok (.iload_n 3, 1) := by decide +kernel
theorem d_M_reads_163 : decode b_M_reads 163 = .ok (.imul, 1) := by decide +kernel
theorem d_M_reads_164 : decode b_M_reads 164 = .ok (.iload 5, 2) := by decide +kernel
theorem d_M_reads_166 : decode b_M_reads 166 = .ok (.bipush 40, 2) := by decide +kernel
theorem d_M_reads_168 : decode b_M_reads 168 = .ok (.if_icmp .ne 7, 3) := by decide +kernel
theorem d_M_reads_171 : decode b_M_reads 171 = .ok (.iconst 0, 1) := by decide +kernel
theorem d_M_reads_172 : decode b_M_reads 172 = .ok (.goto 4, 3) := by decide +kernel
theorem d_M_reads_175 : decode b_M_reads 175 = .ok (.iconst 1, 1) := by decide +kernel
theorem d_M_reads_176 : decode b_M_reads 176 = .ok (.iadd, 1) := by decide +kernel
theorem d_M_reads_177 : decode b_M_reads 177 = .ok (.istore_n 3, 1) := by decide +kernel
theorem d_M_reads_178 : decode b_M_reads 178 = .ok (.goto 78, 3) := by decide +kernel
theorem d_M_reads_181 : decode b_M_reads 181 = .ok (.iload 7, 2) := by decide +kernel
theorem d_M_reads_183 : decode b_M_reads 183 = .ok (.ifCond .eq 13, 3) := by decide +kernel
theorem d_M_reads_186 : decode b_M_reads 186 = .ok (.iinc 2 (-1), 3) := by decide +kernel
theorem d_M_reads_189 : decode b_M_reads 189 = .ok (.iload_n 3, 1) := by decide +kernel
theorem d_M_reads_190 : decode b_M_reads 190 = .ok (.iconst 2, 1) := by decide +kernel
theorem d_M_reads_191 : decode b_M_reads 191 = .ok (.idiv, 1) := by decide +kernel
theorem d_M_reads_192 : decode b_M_reads 192 = .ok (.istore_n 3, 1) := by decide +kernel
theorem d_M_reads_193 : decode b_M_reads 193 = .ok (.goto 63, 3) := by decide +kernel
theorem d_M_reads_196 : decode b_M_reads 196 = .ok (.iload 5, 2) := by decide +kernel
theorem d_M_reads_198 : decode b_M_reads 198 = .ok (.bipush 64, 2) := by decide +kernel
theorem d_M_reads_200 : decode b_M_reads 200 = .ok (.if_icmp .ne 46, 3) := by decide +kernel
theorem d_M_reads_203 : decode b_M_reads 203 = .ok (.iinc 1 1, 3) := by decide +kernel
theorem d_M_reads_206 : decode b_M_reads 206 = .ok (.aload_n 0, 1) := by decide +kernel
theorem d_M_reads_207 : decode b_M_reads 207 = .ok (.iconst 4, 1) := by decide +kernel
theorem d_M_reads_208 : decode b_M_reads 208 = .ok (.iload_n 1, 1) := by decide +kernel
theorem d_M_reads_209 : decode b_M_reads 209 = .ok (.invokevirtual 143, 3) := by decide +kernel
theorem d_M_reads_212 : decode b_M_reads 212 = .ok (.bipush 97, 2) := by decide +kernel
theorem d_M_reads_214 : decode b_M_reads 214 = .ok (.isub, 1) := by decide +kernel
theorem d_M_reads_215 : decode b_M_reads 215 = .ok (.istore 8, 2) := by decide +kernel
theorem d_M_reads_217 : decode b_M_reads 217 = .ok (.iload 8, 2) := by decide +kernel
theorem d_M_reads_219 : decode b_M_reads 219 = .ok (.ifCond .lt 9, 3) := by decide +kernel
theorem d_M_reads_222 : decode b_M_reads 222 = .ok (.iload 8, 2) := by decide +kernel
theorem d_M_reads_224 : decode b_M_reads 224 = .ok (.iconst 3, 1) := by decide +kernel
theorem d_M_reads_225 : decode b_M_reads 225 = .ok (.if_icmp .le 5, 3) := by decide +kernel
theorem d_M_reads_228 : decode b_M_reads 228 = .ok (.iconst 0, 1) := by decide +kernel
theorem d_M_reads_229 : decode b_M_reads 229 = .ok (.ireturn, 1) := by decide +kernel
theorem d_M_reads_230 : decode b_M_reads 230 = .ok (.aload_n 0, 1) := by decide +kernel
theorem d_M_reads_231 : decode b_M_reads 231 = .ok (.getfield 65, 3) := by decide +kernel
theorem d_M_reads_234 : decode b_M_reads 234 = .ok (.iconst 4, 1) := by decide +kernel
theorem d_M_reads_235 : decode b_M_reads 235 = .ok (.dup2, 1) := by decide +kernel
theorem d_M_reads_236 : decode b_M_reads 236 = .ok (.iaload, 1) := by decide +kernel
theorem d_M_reads_237 : decode b_M_reads 237 = .ok (.iconst 1, 1) := by decide +kernel
theorem d_M_reads_238 : decode b_M_reads 238 = .ok (.iload 8, 2) := by decide +kernel
theorem d_M_reads_240 : decode b_M_reads 240 = .ok (.ishl, 1) := by decide +kernel
theorem d_M_reads_241 : decode b_M_reads 241 = .ok (.ior, 1) := by decide +kernel
theorem d_M_reads_242 : decode b_M_reads 242 = .ok (.iastore, 1) := by decide +kernel
theorem d_M_reads_243 : decode b_M_reads 243 = .ok (.goto 13, 3) := by decide +kernel
theorem d_M_reads_246 : decode b_M_reads 246 = .ok (.iload 5, 2) := by decide +kernel
theorem d_M_reads_248 : decode b_M_reads 248 = .ok (.invokestatic 149, 3) := by decide +kernel
theorem d_M_reads_251 : decode b_M_reads 251 = .ok (.ifCond .ne 5, 3) := by decide +kernel
theorem d_M_reads_254 : decode b_M_reads 254 = .ok (.iconst 0, 1) := by decide +kernel
theorem d_M_reads_255 : decode b_M_reads 255 = .ok (.ireturn, 1) := by decide +kernel
theorem d_M_reads_256 : decode b_M_reads 256 = .ok (.iinc 1 1, 3) := by decide +kernel
theorem d_M_reads_259 : decode b_M_reads 259 = .ok (.goto (-246), 3) := by decide +kernel
theorem d_M_reads_262 : decode b_M_reads 262 = .ok (.iload_n 2, 1) := by decide +kernel
theorem d_M_reads_263 : decode b_M_reads 263 = .ok (.ifCond .ne 7, 3) := by decide +kernel
theorem d_M_reads_266 : decode b_M_reads 266 = .ok (.iconst 1, 1) := by decide +kernel
theorem d_M_reads_267 : decode b_M_reads 267 = .ok (.goto 4, 3) := by decide +kernel
theorem d_M_reads_270 : decode b_M_reads 270 = .ok (.iconst 0, 1) := by decide +kernel
theorem d_M_reads_271 : decode b_M_reads 271 = .ok (.ireturn, 1) := by decide +kernel
abbrev b_M_complete : ByteArray := prog_9_method_18_code
theorem d_M_complete_0 : decode b_M_complete 0 = .ok (.aload_n 0, 1) := by decide +kernel
theorem d_M_complete_1 : decode b_M_complete 1 = .ok (.getfield 65, 3) := by decide +kernel
theorem d_M_complete_4 : decode b_M_complete 4 = .ok (.iconst 4, 1) := by decide +kernel
theorem d_M_complete_5 : decode b_M_complete 5 = .ok (.iaload, 1) := by decide +kernel
theorem d_M_complete_6 : decode b_M_complete 6 = .ok (.istore_n 1, 1) := by decide +kernel
theorem d_M_complete_7 : decode b_M_complete 7 = .ok (.iconst 3, 1) := by decide +kernel
theorem d_M_complete_8 : decode b_M_complete 8 = .ok (.istore_n 2, 1) := by decide +kernel
theorem d_M_complete_9 : decode b_M_complete 9 = .ok (.iload_n 2, 1) := by decide +kernel
theorem d_M_complete_10 : decode b_M_complete 10 = .ok (.ifCond .lt 38, 3) := by decide +kernel
theorem d_M_complete_13 : decode b_M_complete 13 = .ok (.iload_n 1, 1) := by decide +kernel
theorem d_M_complete_14 : decode b_M_complete 14 = .ok (.iload_n 2, 1) := by decide +kernel
theorem d_M_complete_15 : decode b_M_complete 15 = .ok (.invokestatic 131, 3) := by decide +kernel
theorem d_M_complete_18 : decode b_M_complete 18 = .ok (.iconst 1, 1) := by decide +kernel
theorem d_M_complete_19 : decode b_M_complete 19 = .ok (.if_icmp .ne 23, 3) := by decide +kernel
theorem d_M_complete_22 : decode b_M_complete 22 = .ok (.aload_n 0, 1) := by decide +kernel
theorem d_M_complete_23 : decode b_M_complete 23 = .ok (.getfield 62, 3) := by decide +kernel
theorem d_M_complete_26 : decode b_M_complete 26 = .ok (.iload_n 2, 1) := by decide +kernel
theorem d_M_complete_27 : decode b_M_complete 27 = .ok (.iaload, 1) := by decide +kernel
theorem d_M_complete_28 : decode b_M_complete 28 = .ok (.ifCond .ge 5, 3) := by decide +kernel
theorem d_M_complete_31 : decode b_M_complete 31 = .ok (.iconst 0, 1) := by decide +kernel
theorem d_M_complete_32 : decode b_M_complete 32 = .ok (.ireturn, 1) := by decide +kernel
theorem d_M_complete_33 : decode b_M_complete 33 = .ok (.iload_n 1, 1) := by decide +kernel
theorem d_M_complete_34 : decode b_M_complete 34 = .ok (.aload_n 0, 1) := by decide +kernel
theorem d_M_complete_35 : decode b_M_complete 35 = .ok (.getfield 65, 3) := by decide +kernel
theorem d_M_complete_38 : decode b_M_complete 38 = .ok (.iload_n 2, 1) := by decide +kernel
theorem d_M_complete_39 : decode b_M_complete 39 = .ok (.iaload, 1) := by decide +kernel
theorem d_M_complete_40 : decode b_M_complete 40 = .ok (.ior, 1) := by decide +kernel
theorem d_M_complete_41 : decode b_M_complete 41 = .ok (.istore_n 1, 1) := by decide +kernel
theorem d_M_complete_42 : decode b_M_complete 42 = .ok (.iinc 2 (-1), 3) := by decide +kernel
theorem d_M_complete_45 : decode b_M_complete 45 = .ok (.goto (-36), 3) := by decide +kernel
theorem d_M_complete_48 : decode b_M_complete 48 = .ok (.iconst 1, 1) := by decide +kernel
theorem d_M_complete_49 : decode b_M_complete 49 = .ok (.ireturn, 1) := by decide +kernel
abbrev b_M_macro : ByteArray := prog_9_method_19_code
theorem d_M_macro_0 : decode b_M_macro 0 = .ok (.aload_n 0, 1) := by decide +kernel
theorem d_M_macro_1 : decode b_M_macro 1 = .ok (.iload_n 1, 1) := by decide +kernel
theorem d_M_macro_2 : decode b_M_macro 2 = .ok (.ifCond .lt 8, 3) := by decide +kernel
theorem d_M_macro_5 : decode b_M_macro 5 = .ok (.iload_n 1, 1) := by decide +kernel
theorem d_M_macro_6 : decode b_M_macro 6 = .ok (.iconst 3, 1) := by decide +kernel
theorem d_M_macro_7 : decode b_M_macro 7 = .ok (.if_icmp .le 7, 3) := by decide +kernel
theorem d_M_macro_10 : decode b_M_macro 10 = .ok (.iconst 1, 1) := by decide +kernel
theorem d_M_macro_11 : decode b_M_macro 11 = .ok (.goto 26, 3) := by decide +kernel
theorem d_M_macro_14 : decode b_M_macro 14 = .ok (.aload_n 0, 1) := by decide +kernel
theorem d_M_macro_15 : decode b_M_macro 15 = .ok (.invokevirtual 152, 3) := by decide +kernel
theorem d_M_macro_18 : decode b_M_macro 18 = .ok (.ifCond .eq 14, 3) := by decide +kernel
theorem d_M_macro_21 : decode b_M_macro 21 = .ok (.aload_n 0, 1) := by decide +kernel
theorem d_M_macro_22 : decode b_M_macro 22 = .ok (.getfield 65, 3) := by decide +kernel
theorem d_M_macro_25 : decode b_M_macro 25 = .ok (.iconst 4, 1) := by decide +kernel
theorem d_M_macro_26 : decode b_M_macro 26 = .ok (.iaload, 1) := by decide +kernel
theorem d_M_macro_27 : decode b_M_macro 27 = .ok (.iload_n 1, 1) := by decide +kernel
theorem d_M_macro_28 : decode b_M_macro 28 = .ok (.ishr, 1) := by decide +kernel
theorem d_M_macro_29 : decode b_M_macro 29 = .ok (.ifCond .eq 7, 3) := by decide +kernel
theorem d_M_macro_32 : decode b_M_macro 32 = .ok (.iconst 2, 1) := by decide +kernel
theorem d_M_macro_33 : decode b_M_macro 33 = .ok (.goto 4, 3) := by decide +kernel
theorem d_M_macro_36 : decode b_M_macro 36 = .ok (.iconst 0, 1) := by decide +kernel
theorem d_M_macro_37 : decode b_M_macro 37 = .ok (.putfield 102, 3) := by decide +kernel
theorem d_M_macro_40 : decode b_M_macro 40 = .ok (.aload_n 0, 1) := by decide +kernel
theorem d_M_macro_41 : decode b_M_macro 41 = .ok (.getfield 102, 3) := by decide +kernel
theorem d_M_macro_44 : decode b_M_macro 44 = .ok (.ifCond .le 4, 3) := by decide +kernel
theorem d_M_macro_47 : decode b_M_macro 47 = .ok (.return_, 1) := by decide +kernel
theorem d_M_macro_48 : decode b_M_macro 48 = .ok (.iconst 0, 1) := by decide +kernel
theorem d_M_macro_49 : decode b_M_macro 49 = .ok (.istore_n 2, 1) := by decide +kernel
theorem d_M_macro_50 : decode b_M_macro 50 = .ok (.iload_n 2, 1) := by decide +kernel
theorem d_M_macro_51 : decode b_M_macro 51 = .ok (.bipush 60, 2) := by decide +kernel
theorem d_M_macro_53 : decode b_M_macro 53 = .ok (.if_icmp .ge 30, 3) := by decide +kernel
theorem d_M_macro_56 : decode b_M_macro 56 = .ok (.aload_n 0, 1) := by decide +kernel
theorem d_M_macro_57 : decode b_M_macro 57 = .ok (.getfield 59, 3) := by decide +kernel
theorem d_M_macro_60 : decode b_M_macro 60 = .ok (.bipush 60, 2) := by decide +kernel
theorem d_M_macro_62 : decode b_M_macro 62 = .ok (.iload_n 1, 1) := by decide +kernel
theorem d_M_macro_63 : decode b_M_macro 63 = .ok (.imul, 1) := by decide +kernel
theorem d_M_macro_64 : decode b_M_macro 64 = .ok (.iload_n 2, 1) := by decide +kernel
theorem d_M_macro_65 : decode b_M_macro 65 = .ok (.iadd, 1) := by decide +kernel
theorem d_M_macro_66 : decode b_M_macro 66 = .ok (.aload_n 0, 1) := by decide +kernel
theorem d_M_macro_67 : decode b_M_macro 67 = .ok (.getfield 59, 3) := by decide +kernel
theorem d_M_macro_70 : decode b_M_macro 70 = .ok (.sipush 240, 3) := by decide +kernel
theorem d_M_macro_73 : decode b_M_macro 73 = .ok (.iload_n 2, 1) := by decide +kernel
theorem d_M_macro_74 : decode b_M_macro 74 = .ok (.iadd, 1) := by decide +kernel
theorem d_M_macro_75 : decode b_M_macro 75 = .ok (.iaload, 1) := by decide +kernel
theorem d_M_macro_76 : decode b_M_macro 76 = .ok (.iastore, 1) := by decide +kernel
theorem d_M_macro_77 : decode b_M_macro 77 = .ok (.iinc 2 1, 3) := by decide +kernel
theorem d_M_macro_80 : decode b_M_macro 80 = .ok (.goto (-30), 3) := by decide +kernel
theorem d_M_macro_83 : decode b_M_macro 83 = .ok (.aload_n 0, 1) := by decide +kernel
theorem d_M_macro_84 : decode b_M_macro 84 = .ok (.getfield 62, 3) := by decide +kernel
theorem d_M_macro_87 : decode b_M_macro 87 = .ok (.iload_n 1, 1) := by decide +kernel
theorem d_M_macro_88 : decode b_M_macro 88 = .ok (.aload_n 0, 1) := by decide +kernel
theorem d_M_macro_89 : decode b_M_macro 89 = .ok (.getfield 62, 3) := by decide +kernel
theorem d_M_macro_92 : decode b_M_macro 92 = .ok (.iconst 4, 1) := by decide +kernel
theorem d_M_macro_93 : decode b_M_macro 93 = .ok (.iaload, 1) := by decide +kernel
theorem d_M_macro_94 : decode b_M_macro 94 = .ok (.iastore, 1) := by decide +kernel
theorem d_M_macro_95 : decode b_M_macro 95 = .ok (.aload_n 0, 1) := by decide +kernel
theorem d_M_macro_96 : decode b_M_macro 96 = .ok (.getfield 65, 3) := by decide +kernel
theorem d_M_macro_99 : decode b_M_macro 99 = .ok (.iload_n 1, 1) := by decide +kernel
theorem d_M_macro_100 : decode b_M_macro 100 = .ok (.aload_n 0, 1) := by decide +kernel
theorem d_M_macro_101 : decode b_M_macro 101 = .ok (.getfield 65, 3) := by decide +kernel
theorem d_M_macro_104 : decode b_M_macro 104 = .ok (.iconst 4, 1) := by decide +kernel
theorem d_M_macro_105 : decode b_M_macro 105 = .ok (.iaload, 1) := by decide +kernel
theorem d_M_macro_106 : decode b_M_macro 106 = .ok (.iastore, 1) := by decide +kernel
theorem d_M_macro_107 : decode b_M_macro 107 = .ok (.aload_n 0, 1) := by decide +kernel
theorem d_M_macro_108 : decode b_M_macro 108 = .ok (.getfield 62, 3) := by decide +kernel
theorem d_M_macro_111 : decode b_M_macro 111 = .ok (.iconst 4, 1) := by decide +kernel
theorem d_M_macro_112 : decode b_M_macro 112 = .ok (.iconst 0, 1) := by decide +kernel
theorem d_M_macro_113 : decode b_M_macro 113 = .ok (.iastore, 1) := by decide +kernel
theorem d_M_macro_114 : decode b_M_macro 114 = .ok (.return_, 1) := by decide +kernel
abbrev b_M_across : ByteArray := prog_9_method_20_code
theorem d_M_across_0 : decode b_M_across 0 = .ok (.iload_n 0, 1) := by decide +kernel
theorem d_M_across_1 : decode b_M_across 1 = .ok (.iconst 1, 1) := by decide +kernel
theorem d_M_across_2 : decode b_M_across 2 = .ok (.if_icmp .ne 7, 3) := by decide +kernel
theorem d_M_across_5 : decode b_M_across 5 = .ok (.iconst 1, 1) := by decide +kernel
theorem d_M_across_6 : decode b_M_across 6 = .ok (.goto 13, 3) := by decide +kernel
theorem d_M_across_9 : decode b_M_across 9 = .ok (.iload_n 0, 1) := by decide +kernel
theorem d_M_across_10 : decode b_M_across 10 = .ok (.iconst 3, 1) := by decide +kernel
theorem d_M_across_11 : decode b_M_across 11 = .ok (.if_icmp .ne 7, 3) := by decide +kernel
theorem d_M_across_14 : decode b_M_across 14 = .ok (.iconst (-1), 1) := by decide +kernel
theorem d_M_across_15 : decode b_M_across 15 = .ok (.goto 4, 3) := by decide +kernel
theorem d_M_across_18 : decode b_M_across 18 = .ok (.iconst 0, 1) := by decide +kernel
theorem d_M_across_19 : decode b_M_across 19 = .ok (.ireturn, 1) := by decide +kernel
abbrev b_M_down : ByteArray := prog_9_method_21_code
theorem d_M_down_0 : decode b_M_down 0 = .ok (.iload_n 0, 1) := by decide +kernel
theorem d_M_down_1 : decode b_M_down 1 = .ok (.iconst 2, 1) := by decide +kernel
theorem d_M_down_2 : decode b_M_down 2 = .ok (.if_icmp .ne 7, 3) := by decide +kernel
theorem d_M_down_5 : decode b_M_down 5 = .ok (.iconst 1, 1) := by decide +kernel
theorem d_M_down_6 : decode b_M_down 6 = .ok (.goto 12, 3) := by decide +kernel
theorem d_M_down_9 : decode b_M_down 9 = .ok (.iload_n 0, 1) := by decide +kernel
theorem d_M_down_10 : decode b_M_down 10 = .ok (.ifCond .ne 7, 3) := by decide +kernel
theorem d_M_down_13 : decode b_M_down 13 = .ok (.iconst (-1), 1) := by decide +kernel
theorem d_M_down_14 : decode b_M_down 14 = .ok (.goto 4, 3) := by decide +kernel
theorem d_M_down_17 : decode b_M_down 17 = .ok (.iconst 0, 1) := by decide +kernel
theorem d_M_down_18 : decode b_M_down 18 = .ok (.ireturn, 1) := by decide +kernel
abbrev b_M_countOne : ByteArray := prog_9_method_22_code
theorem d_M_countOne_0 : decode b_M_countOne 0 = .ok (.aload_n 0, 1) := by decide +kernel
theorem d_M_countOne_1 : decode b_M_countOne 1 = .ok (.dup, 1) := by decide +kernel
theorem d_M_countOne_2 : decode b_M_countOne 2 = .ok (.getfield 156, 3) := by decide +kernel
theorem d_M_countOne_5 : decode b_M_countOne 5 = .ok (.iconst 1, 1) := by decide +kernel
theorem d_M_countOne_6 : decode b_M_countOne 6 = .ok (.iadd, 1) := by decide +kernel
theorem d_M_countOne_7 : decode b_M_countOne 7 = .ok (.putfield 156, 3) := by decide +kernel
theorem d_M_countOne_10 : decode b_M_countOne 10 = .ok (.aload_n 0, 1) := by decide +kernel
theorem d_M_countOne_11 : decode b_M_countOne 11 = .ok (.aload_n 0, 1) := by decide +kernel
theorem d_M_countOne_12 : decode b_M_countOne 12 = .ok (.getfield 159, 3) := by decide +kernel
theorem d_M_countOne_15 : decode b_M_countOne 15 = .ok (.ifCond .ne 13, 3) := by decide +kernel
theorem d_M_countOne_18 : decode b_M_countOne 18 = .ok (.aload_n 0, 1) := by decide +kernel
theorem d_M_countOne_19 : decode b_M_countOne 19 = .ok (.getfield 156, 3) := by decide +kernel
theorem d_M_countOne_22 : decode b_M_countOne 22 = .ok (.sipush 400, 3) := by decide +kernel
theorem d_M_countOne_25 : decode b_M_countOne 25 = .ok (.if_icmp .le 7, 3) := by decide +kernel
theorem d_M_countOne_28 : decode b_M_countOne 28 = .ok (.iconst 1, 1) := by decide +kernel
theorem d_M_countOne_29 : decode b_M_countOne 29 = .ok (.goto 4, 3) := by decide +kernel
theorem d_M_countOne_32 : decode b_M_countOne 32 = .ok (.iconst 0, 1) := by decide +kernel
theorem d_M_countOne_33 : decode b_M_countOne 33 = .ok (.putfield 159, 3) := by decide +kernel
theorem d_M_countOne_36 : decode b_M_countOne 36 = .ok (.return_, 1) := by decide +kernel
abbrev b_M_put : ByteArray := prog_9_method_23_code
theorem d_M_put_0 : decode b_M_put 0 = .ok (.aload_n 0, 1) := by decide +kernel
theorem d_M_put_1 : decode b_M_put 1 = .ok (.aload_n 0, 1) := by decide +kernel
theorem d_M_put_2 : decode b_M_put 2 = .ok (.getfield 159, 3) := by decide +kernel
theorem d_M_put_5 : decode b_M_put 5 = .ok (.ifCond .ne 11, 3) := by decide +kernel
theorem d_M_put_8 : decode b_M_put 8 = .ok (.iload_n 1, 1) := by decide +kernel
theorem d_M_put_9 : decode b_M_put 9 = .ok (.iload_n 2, 1) := by decide +kernel
theorem d_M_put_10 : decode b_M_put 10 = .ok (.invokestatic 163, 3) := by decide +kernel
theorem d_M_put_13 : decode b_M_put 13 = .ok (.ifCond .ne 7, 3) := by decide +kernel
theorem d_M_put_16 : decode b_M_put 16 = .ok (.iconst 1, 1) := by decide +kernel
theorem d_M_put_17 : decode b_M_put 17 = .ok (.goto 4, 3) := by decide +kernel
theorem d_M_put_20 : decode b_M_put 20 = .ok (.iconst 0, 1) := by decide +kernel
theorem d_M_put_21 : decode b_M_put 21 = .ok (.putfield 159, 3) := by decide +kernel
theorem d_M_put_24 : decode b_M_put 24 = .ok (.aload_n 0, 1) := by decide +kernel
theorem d_M_put_25 : decode b_M_put 25 = .ok (.getfield 159, 3) := by decide +kernel
theorem d_M_put_28 : decode b_M_put 28 = .ok (.ifCond .eq 4, 3) := by decide +kernel
theorem d_M_put_31 : decode b_M_put 31 = .ok (.return_, 1) := by decide +kernel
theorem d_M_put_32 : decode b_M_put 32 = .ok (.iconst 1, 1) := by decide +kernel
theorem d_M_put_33 : decode b_M_put 33 = .ok (.iload_n 1, 1) := by decide +kernel
theorem d_M_put_34 : decode b_M_put 34 = .ok (.ishl, 1) := by decide +kernel
theorem d_M_put_35 : decode b_M_put 35 = .ok (.istore 4, 2) := by decide +kernel
theorem d_M_put_37 : decode b_M_put 37 = .ok (.aload_n 0, 1) := by decide +kernel
theorem d_M_put_38 : decode b_M_put 38 = .ok (.getfield 68, 3) := by decide +kernel
theorem d_M_put_41 : decode b_M_put 41 = .ok (.iload_n 2, 1) := by decide +kernel
theorem d_M_put_42 : decode b_M_put 42 = .ok (.iload_n 3, 1) := by decide +kernel
theorem d_M_put_43 : decode b_M_put 43 = .ok (.iconst 1, 1) := by decide +kernel
theorem d_M_put_44 : decode b_M_put 44 = .ok (.if_icmp .ne 15, 3) := by decide +kernel
theorem d_M_put_47 : decode b_M_put 47 = .ok (.aload_n 0, 1) := by decide +kernel
theorem d_M_put_48 : decode b_M_put 48 = .ok (.getfield 68, 3) := by decide +kernel
theorem d_M_put_51 : decode b_M_put 51 = .ok (.iload_n 2, 1) := by decide +kernel
theorem d_M_put_52 : decode b_M_put 52 = .ok (.iaload, 1) := by decide +kernel
theorem d_M_put_53 : decode b_M_put 53 = .ok (.iload 4, 2) := by decide +kernel
theorem d_M_put_55 : decode b_M_put 55 = .ok (.ior, 1) := by decide +kernel
theorem d_M_put_56 : decode b_M_put 56 = .ok (.goto 14, 3) := by decide +kernel
theorem d_M_put_59 : decode b_M_put 59 = .ok (.aload_n 0, 1) := by decide +kernel
theorem d_M_put_60 : decode b_M_put 60 = .ok (.getfield 68, 3) := by decide +kernel
theorem d_M_put_63 : decode b_M_put 63 = .ok (.iload_n 2, 1) := by decide +kernel
theorem d_M_put_64 : decode b_M_put 64 = .ok (.iaload, 1) := by decide +kernel
theorem d_M_put_65 : decode b_M_put 65 = .ok (.iload 4, 2) := by decide +kernel
theorem d_M_put_67 : decode b_M_put 67 = .ok (.iconst (-1), 1) := by decide +kernel
theorem d_M_put_68 : decode b_M_put 68 = .ok (.ixor, 1) := by decide +kernel
theorem d_M_put_69 : decode b_M_put 69 = .ok (.iand, 1) := by decide +kernel
theorem d_M_put_70 : decode b_M_put 70 = .ok (.iastore, 1) := by decide +kernel
theorem d_M_put_71 : decode b_M_put 71 = .ok (.aload_n 0, 1) := by decide +kernel
theorem d_M_put_72 : decode b_M_put 72 = .ok (.getfield 71, 3) := by decide +kernel
theorem d_M_put_75 : decode b_M_put 75 = .ok (.iload_n 2, 1) := by decide +kernel
theorem d_M_put_76 : decode b_M_put 76 = .ok (.iload_n 3, 1) := by decide +kernel
theorem d_M_put_77 : decode b_M_put 77 = .ok (.iconst 2, 1) := by decide +kernel
theorem d_M_put_78 : decode b_M_put 78 = .ok (.if_icmp .ne 15, 3) := by decide +kernel
theorem d_M_put_81 : decode b_M_put 81 = .ok (.aload_n 0, 1) := by decide +kernel
theorem d_M_put_82 : decode b_M_put 82 = .ok (.getfield 71, 3) := by decide +kernel
theorem d_M_put_85 : decode b_M_put 85 = .ok (.iload_n 2, 1) := by decide +kernel
theorem d_M_put_86 : decode b_M_put 86 = .ok (.iaload, 1) := by decide +kernel
theorem d_M_put_87 : decode b_M_put 87 = .ok (.iload 4, 2) := by decide +kernel
theorem d_M_put_89 : decode b_M_put 89 = .ok (.ior, 1) := by decide +kernel
theorem d_M_put_90 : decode b_M_put 90 = .ok (.goto 14, 3) := by decide +kernel
theorem d_M_put_93 : decode b_M_put 93 = .ok (.aload_n 0, 1) := by decide +kernel
theorem d_M_put_94 : decode b_M_put 94 = .ok (.getfield 71, 3) := by decide +kernel
theorem d_M_put_97 : decode b_M_put 97 = .ok (.iload_n 2, 1) := by decide +kernel
theorem d_M_put_98 : decode b_M_put 98 = .ok (.iaload, 1) := by decide +kernel
theorem d_M_put_99 : decode b_M_put 99 = .ok (.iload 4, 2) := by decide +kernel
theorem d_M_put_101 : decode b_M_put 101 = .ok (.iconst (-1), 1) := by decide +kernel
theorem d_M_put_102 : decode b_M_put 102 = .ok (.ixor, 1) := by decide +kernel
theorem d_M_put_103 : decode b_M_put 103 = .ok (.iand, 1) := by decide +kernel
theorem d_M_put_104 : decode b_M_put 104 = .ok (.iastore, 1) := by decide +kernel
theorem d_M_put_105 : decode b_M_put 105 = .ok (.aload_n 0, 1) := by decide +kernel
theorem d_M_put_106 : decode b_M_put 106 = .ok (.getfield 74, 3) := by decide +kernel
theorem d_M_put_109 : decode b_M_put 109 = .ok (.iload_n 2, 1) := by decide +kernel
theorem d_M_put_110 : decode b_M_put 110 = .ok (.iload_n 3, 1) := by decide +kernel
theorem d_M_put_111 : decode b_M_put 111 = .ok (.iconst 3, 1) := by decide +kernel
theorem d_M_put_112 : decode b_M_put 112 = .ok (.if_icmp .ne 15, 3) := by decide +kernel
theorem d_M_put_115 : decode b_M_put 115 = .ok (.aload_n 0, 1) := by decide +kernel
theorem d_M_put_116 : decode b_M_put 116 = .ok (.getfield 74, 3) := by decide +kernel
theorem d_M_put_119 : decode b_M_put 119 = .ok (.iload_n 2, 1) := by decide +kernel
theorem d_M_put_120 : decode b_M_put 120 = .ok (.iaload, 1) := by decide +kernel
theorem d_M_put_121 : decode b_M_put 121 = .ok (.iload 4, 2) := by decide +kernel
theorem d_M_put_123 : decode b_M_put 123 = .ok (.ior, 1) := by decide +kernel
theorem d_M_put_124 : decode b_M_put 124 = .ok (.goto 14, 3) := by decide +kernel
theorem d_M_put_127 : decode b_M_put 127 = .ok (.aload_n 0, 1) := by decide +kernel
theorem d_M_put_128 : decode b_M_put 128 = .ok (.getfield 74, 3) := by decide +kernel
theorem d_M_put_131 : decode b_M_put 131 = .ok (.iload_n 2, 1) := by decide +kernel
theorem d_M_put_132 : decode b_M_put 132 = .ok (.iaload, 1) := by decide +kernel
theorem d_M_put_133 : decode b_M_put 133 = .ok (.iload 4, 2) := by decide +kernel
theorem d_M_put_135 : decode b_M_put 135 = .ok (.iconst (-1), 1) := by decide +kernel
theorem d_M_put_136 : decode b_M_put 136 = .ok (.ixor, 1) := by decide +kernel
theorem d_M_put_137 : decode b_M_put 137 = .ok (.iand, 1) := by decide +kernel
theorem d_M_put_138 : decode b_M_put 138 = .ok (.iastore, 1) := by decide +kernel
theorem d_M_put_139 : decode b_M_put 139 = .ok (.return_, 1) := by decide +kernel
abbrev b_M_step : ByteArray := prog_9_method_24_code
theorem d_M_step_0 : decode b_M_step 0 = .ok (.aload_n 0, 1) := by decide +kernel
theorem d_M_step_1 : decode b_M_step 1 = .ok (.dup, 1) := by decide +kernel
theorem d_M_step_2 : decode b_M_step 2 = .ok (.getfield 167, 3) := by decide +kernel
theorem d_M_step_5 : decode b_M_step 5 = .ok (.iload_n 1, 1) := by decide +kernel
theorem d_M_step_6 : decode b_M_step 6 = .ok (.aload_n 0, 1) := by decide +kernel
theorem d_M_step_7 : decode b_M_step 7 = .ok (.getfield 170, 3) := by decide +kernel
theorem d_M_step_10 : decode b_M_step 10 = .ok (.invokestatic 173, 3) := by decide +kernel
theorem d_M_step_13 : decode b_M_step 13 = .ok (.imul, 1) := by decide +kernel
theorem d_M_step_14 : decode b_M_step 14 = .ok (.iadd, 1) := by decide +kernel
theorem d_M_step_15 : decode b_M_step 15 = .ok (.putfield 167, 3) := by decide +kernel
theorem d_M_step_18 : decode b_M_step 18 = .ok (.aload_n 0, 1) := by decide +kernel
theorem d_M_step_19 : decode b_M_step 19 = .ok (.dup, 1) := by decide +kernel
theorem d_M_step_20 : decode b_M_step 20 = .ok (.getfield 176, 3) := by decide +kernel
theorem d_M_step_23 : decode b_M_step 23 = .ok (.iload_n 1, 1) := by decide +kernel
theorem d_M_step_24 : decode b_M_step 24 = .ok (.aload_n 0, 1) := by decide +kernel
theorem d_M_step_25 : decode b_M_step 25 = .ok (.getfield 170, 3) := by decide +kernel
theorem d_M_step_28 : decode b_M_step 28 = .ok (.invokestatic 179, 3) := by decide +kernel
theorem d_M_step_31 : decode b_M_step 31 = .ok (.imul, 1) := by decide +kernel
theorem d_M_step_32 : decode b_M_step 32 = .ok (.iadd, 1) := by decide +kernel
theorem d_M_step_33 : decode b_M_step 33 = .ok (.putfield 176, 3) := by decide +kernel
theorem d_M_step_36 : decode b_M_step 36 = .ok (.aload_n 0, 1) := by decide +kernel
theorem d_M_step_37 : decode b_M_step 37 = .ok (.aload_n 0, 1) := by decide +kernel
theorem d_M_step_38 : decode b_M_step 38 = .ok (.getfield 159, 3) := by decide +kernel
theorem d_M_step_41 : decode b_M_step 41 = .ok (.ifCond .ne 17, 3) := by decide +kernel
theorem d_M_step_44 : decode b_M_step 44 = .ok (.aload_n 0, 1) := by decide +kernel
theorem d_M_step_45 : decode b_M_step 45 = .ok (.getfield 167, 3) := by decide +kernel
theorem d_M_step_48 : decode b_M_step 48 = .ok (.aload_n 0, 1) := by decide +kernel
theorem d_M_step_49 : decode b_M_step 49 = .ok (.getfield 176, 3) := by decide +kernel
theorem d_M_step_52 : decode b_M_step 52 = .ok (.invokestatic 163, 3) := by decide +kernel
theorem d_M_step_55 : decode b_M_step 55 = .ok (.ifCond .ne 7, 3) := by decide +kernel
theorem d_M_step_58 : decode b_M_step 58 = .ok (.iconst 1, 1) := by decide +kernel
theorem d_M_step_59 : decode b_M_step 59 = .ok (.goto 4, 3) := by decide +kernel
theorem d_M_step_62 : decode b_M_step 62 = .ok (.iconst 0, 1) := by decide +kernel
theorem d_M_step_63 : decode b_M_step 63 = .ok (.putfield 159, 3) := by decide +kernel
theorem d_M_step_66 : decode b_M_step 66 = .ok (.iload_n 2, 1) := by decide +kernel
theorem d_M_step_67 : decode b_M_step 67 = .ok (.ifCond .eq 23, 3) := by decide +kernel
theorem d_M_step_70 : decode b_M_step 70 = .ok (.aload_n 0, 1) := by decide +kernel
theorem d_M_step_71 : decode b_M_step 71 = .ok (.getfield 182, 3) := by decide +kernel
theorem d_M_step_74 : decode b_M_step 74 = .ok (.ifCond .ne 16, 3) := by decide +kernel
theorem d_M_step_77 : decode b_M_step 77 = .ok (.aload_n 0, 1) := by decide +kernel
theorem d_M_step_78 : decode b_M_step 78 = .ok (.aload_n 0, 1) := by decide +kernel
theorem d_M_step_79 : decode b_M_step 79 = .ok (.getfield 167, 3) := by decide +kernel
theorem d_M_step_82 : decode b_M_step 82 = .ok (.aload_n 0, 1) := by decide +kernel
theorem d_M_step_83 : decode b_M_step 83 = .ok (.getfield 176, 3) := by decide +kernel
theorem d_M_step_86 : decode b_M_step 86 = .ok (.iconst 3, 1) := by decide +kernel
theorem d_M_step_87 : decode b_M_step 87 = .ok (.invokevirtual 185, 3) := by decide +kernel
theorem d_M_step_90 : decode b_M_step 90 = .ok (.iconst (-1), 1) := by decide +kernel
theorem d_M_step_91 : decode b_M_step 91 = .ok (.istore 4, 2) := by decide +kernel
theorem d_M_step_93 : decode b_M_step 93 = .ok (.iload 4, 2) := by decide +kernel
theorem d_M_step_95 : decode b_M_step 95 = .ok (.iconst 2, 1) := by decide +kernel
theorem d_M_step_96 : decode b_M_step 96 = .ok (.if_icmp .ge 95, 3) := by decide +kernel
theorem d_M_step_99 : decode b_M_step 99 = .ok (.iload_n 3, 1) := by decide +kernel
theorem d_M_step_100 : decode b_M_step 100 = .ok (.ifCond .eq 91, 3) := by decide +kernel
theorem d_M_step_103 : decode b_M_step 103 = .ok (.aload_n 0, 1) := by decide +kernel
theorem d_M_step_104 : decode b_M_step 104 = .ok (.getfield 170, 3) := by decide +kernel
theorem d_M_step_107 : decode b_M_step 107 = .ok (.iconst 1, 1) := by decide +kernel
theorem d_M_step_108 : decode b_M_step 108 = .ok (.iadd, 1) := by decide +kernel
theorem d_M_step_109 : decode b_M_step 109 = .ok (.iconst 3, 1) := by decide +kernel
theorem d_M_step_110 : decode b_M_step 110 = .ok (.iand, 1) := by decide +kernel
theorem d_M_step_111 : decode b_M_step 111 = .ok (.istore 5, 2) := by decide +kernel
theorem d_M_step_113 : decode b_M_step 113 = .ok (.aload_n 0, 1) := by decide +kernel
theorem d_M_step_114 : decode b_M_step 114 = .ok (.getfield 167, 3) := by decide +kernel
theorem d_M_step_117 : decode b_M_step 117 = .ok (.iload 4, 2) := by decide +kernel
theorem d_M_step_119 : decode b_M_step 119 = .ok (.iload 5, 2) := by decide +kernel
theorem d_M_step_121 : decode b_M_step 121 = .ok (.invokestatic 173, 3) := by decide +kernel
theorem d_M_step_124 : decode b_M_step 124 = .ok (.imul, 1) := by decide +kernel
theorem d_M_step_125 : decode b_M_step 125 = .ok (.iadd, 1) := by decide +kernel
theorem d_M_step_126 : decode b_M_step 126 = .ok (.istore 6, 2) := by decide +kernel
theorem d_M_step_128 : decode b_M_step 128 = .ok (.aload_n 0, 1) := by decide +kernel
theorem d_M_step_129 : decode b_M_step 129 = .ok (.getfield 176, 3) := by decide +kernel
theorem d_M_step_132 : decode b_M_step 132 = .ok (.iload 4, 2) := by decide +kernel
theorem d_M_step_134 : decode b_M_step 134 = .ok (.iload 5, 2) := by decide +kernel
theorem d_M_step_136 : decode b_M_step 136 = .ok (.invokestatic 179, 3) := by decide +kernel
theorem d_M_step_139 : decode b_M_step 139 = .ok (.imul, 1) := by decide +kernel
theorem d_M_step_140 : decode b_M_step 140 = .ok (.iadd, 1) := by decide +kernel
theorem d_M_step_141 : decode b_M_step 141 = .ok (.istore 7, 2) := by decide +kernel
theorem d_M_step_143 : decode b_M_step 143 = .ok (.aload_n 0, 1) := by decide +kernel
theorem d_M_step_144 : decode b_M_step 144 = .ok (.aload_n 0, 1) := by decide +kernel
theorem d_M_step_145 : decode b_M_step 145 = .ok (.getfield 159, 3) := by decide +kernel
theorem d_M_step_148 : decode b_M_step 148 = .ok (.ifCond .ne 13, 3) := by decide +kernel
theorem d_M_step_151 : decode b_M_step 151 = .ok (.iload 6, 2) := by decide +kernel
theorem d_M_step_153 : decode b_M_step 153 = .ok (.iload 7, 2) := by decide +kernel
theorem d_M_step_155 : decode b_M_step 155 = .ok (.invokestatic 163, 3) := by decide +kernel
theorem d_M_step_158 : decode b_M_step 158 = .ok (.ifCond .ne 7, 3) := by decide +kernel
theorem d_M_step_161 : decode b_M_step 161 = .ok (.iconst 1, 1) := by decide +kernel
theorem d_M_step_162 : decode b_M_step 162 = .ok (.goto 4, 3) := by decide +kernel
theorem d_M_step_165 : decode b_M_step 165 = .ok (.iconst 0, 1) := by decide +kernel
theorem d_M_step_166 : decode b_M_step 166 = .ok (.putfield 159, 3) := by decide +kernel
theorem d_M_step_169 : decode b_M_step 169 = .ok (.aload_n 0, 1) := by decide +kernel
theorem d_M_step_170 : decode b_M_step 170 = .ok (.getfield 182, 3) := by decide +kernel
theorem d_M_step_173 : decode b_M_step 173 = .ok (.ifCond .ne 12, 3) := by decide +kernel
theorem d_M_step_176 : decode b_M_step 176 = .ok (.aload_n 0, 1) := by decide +kernel
theorem d_M_step_177 : decode b_M_step 177 = .ok (.iload 6, 2) := by decide +kernel
theorem d_M_step_179 : decode b_M_step 179 = .ok (.iload 7, 2) := by decide +kernel
theorem d_M_step_181 : decode b_M_step 181 = .ok (.iconst 3, 1) := by decide +kernel
theorem d_M_step_182 : decode b_M_step 182 = .ok (.invokevirtual 185, 3) := by decide +kernel
theorem d_M_step_185 : decode b_M_step 185 = .ok (.iinc 4 2, 3) := by decide +kernel
theorem d_M_step_188 : decode b_M_step 188 = .ok (.goto (-95), 3) := by decide +kernel
theorem d_M_step_191 : decode b_M_step 191 = .ok (.return_, 1) := by decide +kernel
abbrev b_M_obey : ByteArray := prog_9_method_25_code
theorem d_M_obey_0 : decode b_M_obey 0 = .ok (.aload_n 0, 1) := by decide +kernel
theorem d_M_obey_1 : decode b_M_obey 1 = .ok (.invokevirtual 189, 3) := by decide +kernel
theorem d_M_obey_4 : decode b_M_obey 4 = .ok (.aload_n 0, 1) := by decide +kernel
theorem d_M_obey_5 : decode b_M_obey 5 = .ok (.getfield 159, 3) := by decide +kernel
theorem d_M_obey_8 : decode b_M_obey 8 = .ok (.ifCond .eq 4, 3) := by decide +kernel
theorem d_M_obey_11 : decode b_M_obey 11 = .ok (.return_, 1) := by decide +kernel
theorem d_M_obey_12 : decode b_M_obey 12 = .ok (.iload_n 1, 1) := by decide +kernel
theorem d_M_obey_13 : decode b_M_obey 13 = .ok (.tableswitch 240 66 87 #[111, 240, 151, 157, 103, 240, 240, 240, 240, 240, 132, 240, 240, 240, 240, 240, 119, 240, 240, 145, 240, 226], 103) := by decide +kernel
theorem d_M_obey_116 : decode b_M_obey 116 = .ok (.aload_n 0, 1) := by decide +kernel
theorem d_M_obey_117 : decode b_M_obey 117 = .ok (.iconst 1, 1) := by decide +kernel
theorem d_M_obey_118 : decode b_M_obey 118 = .ok (.iconst 1, 1) := by decide +kernel
theorem d_M_obey_119 : decode b_M_obey 119 = .ok (.iconst 0, 1) := by decide +kernel
theorem d_M_obey_120 : decode b_M_obey 120 = .ok (.invokevirtual 192, 3) := by decide +kernel
theorem d_M_obey_123 : decode b_M_obey 123 = .ok (.return_, 1) := by decide +kernel
theorem d_M_obey_124 : decode b_M_obey 124 = .ok (.aload_n 0, 1) := by decide +kernel
theorem d_M_obey_125 : decode b_M_obey 125 = .ok (.iconst (-1), 1) := by decide +kernel
theorem d_M_obey_126 : decode b_M_obey 126 = .ok (.iconst 0, 1) := by decide +kernel
theorem d_M_obey_127 : decode b_M_obey 127 = .ok (.iconst 0, 1) := by decide +kernel
theorem d_M_obey_128 : decode b_M_obey 128 = .ok (.invokevirtual 192, 3) := by decide +kernel
theorem d_M_obey_131 : decode b_M_obey 131 = .ok (.return_, 1) := by decide +kernel
theorem d_M_obey_132 : decode b_M_obey 132 = .ok (.aload_n 0, 1) := by decide +kernel
theorem d_M_obey_133 : decode b_M_obey 133 = .ok (.aload_n 0, 1) := by decide +kernel
theorem d_M_obey_134 : decode b_M_obey 134 = .ok (.getfield 170, 3) := by decide +kernel
theorem d_M_obey_137 : decode b_M_obey 137 = .ok (.iconst 1, 1) := by decide +kernel
theorem d_M_obey_138 : decode b_M_obey 138 = .ok (.iadd, 1) := by decide +kernel
theorem d_M_obey_139 : decode b_M_obey 139 = .ok (.iconst 4, 1) := by decide +kernel
theorem d_M_obey_140 : decode b_M_obey 140 = .ok (.irem, 1) := by decide +kernel
theorem d_M_obey_141 : decode b_M_obey 141 = .ok (.putfield 170, 3) := by decide +kernel
theorem d_M_obey_144 : decode b_M_obey 144 = .ok (.return_, 1) := by decide +kernel
theorem d_M_obey_145 : decode b_M_obey 145 = .ok (.aload_n 0, 1) := by decide +kernel
theorem d_M_obey_146 : decode b_M_obey 146 = .ok (.aload_n 0, 1) := by decide +kernel
theorem d_M_obey_147 : decode b_M_obey 147 = .ok (.getfield 170, 3) := by decide +kernel
theorem d_M_obey_150 : decode b_M_obey 150 = .ok (.iconst 3, 1) := by decide +kernel
theorem d_M_obey_151 : decode b_M_obey 151 = .ok (.iadd, 1) := by decide +kernel
theorem d_M_obey_152 : decode b_M_obey 152 = .ok (.iconst 4, 1) := by decide +kernel
theorem d_M_obey_153 : decode b_M_obey 153 = .ok (.irem, 1) := by decide +kernel
theorem d_M_obey_154 : decode b_M_obey 154 = .ok (.putfield 170, 3) := by decide +kernel
theorem d_M_obey_157 : decode b_M_obey 157 = .ok (.return_, 1) := by decide +kernel
theorem d_M_obey_158 : decode b_M_obey 158 = .ok (.aload_n 0, 1) := by decide +kernel
theorem d_M_obey_159 : decode b_M_obey 159 = .ok (.iconst 1, 1) := by decide +kernel
theorem d_M_obey_160 : decode b_M_obey 160 = .ok (.putfield 182, 3) := by decide +kernel
theorem d_M_obey_163 : decode b_M_obey 163 = .ok (.return_, 1) := by decide +kernel
theorem d_M_obey_164 : decode b_M_obey 164 = .ok (.aload_n 0, 1) := by decide +kernel
theorem d_M_obey_165 : decode b_M_obey 165 = .ok (.iconst 0, 1) := by decide +kernel
theorem d_M_obey_166 : decode b_M_obey 166 = .ok (.putfield 182, 3) := by decide +kernel
theorem d_M_obey_169 : decode b_M_obey 169 = .ok (.return_, 1) := by decide +kernel
theorem d_M_obey_170 : decode b_M_obey 170 = .ok (.aload_n 0, 1) := by decide +kernel
theorem d_M_obey_171 : decode b_M_obey 171 = .ok (.aload_n 0, 1) := by decide +kernel
theorem d_M_obey_172 : decode b_M_obey 172 = .ok (.getfield 167, 3) := by decide +kernel
theorem d_M_obey_175 : decode b_M_obey 175 = .ok (.aload_n 0, 1) := by decide +kernel
theorem d_M_obey_176 : decode b_M_obey 176 = .ok (.getfield 176, 3) := by decide +kernel
theorem d_M_obey_179 : decode b_M_obey 179 = .ok (.iconst 1, 1) := by decide +kernel
theorem d_M_obey_180 : decode b_M_obey 180 = .ok (.invokevirtual 185, 3) := by decide +kernel
theorem d_M_obey_183 : decode b_M_obey 183 = .ok (.aload_n 0, 1) := by decide +kernel
theorem d_M_obey_184 : decode b_M_obey 184 = .ok (.getfield 167, 3) := by decide +kernel
theorem d_M_obey_187 : decode b_M_obey 187 = .ok (.aload_n 0, 1) := by decide +kernel
theorem d_M_obey_188 : decode b_M_obey 188 = .ok (.getfield 170, 3) := by decide +kernel
theorem d_M_obey_191 : decode b_M_obey 191 = .ok (.invokestatic 173, 3) := by decide +kernel
theorem d_M_obey_194 : decode b_M_obey 194 = .ok (.isub, 1) := by decide +kernel
theorem d_M_obey_195 : decode b_M_obey 195 = .ok (.istore_n 2, 1) := by decide +kernel
theorem d_M_obey_196 : decode b_M_obey 196 = .ok (.aload_n 0, 1) := by decide +kernel
theorem d_M_obey_197 : decode b_M_obey 197 = .ok (.getfield 176, 3) := by decide +kernel
theorem d_M_obey_200 : decode b_M_obey 200 = .ok (.aload_n 0, 1) := by decide +kernel
theorem d_M_obey_201 : decode b_M_obey 201 = .ok (.getfield 170, 3) := by decide +kernel
theorem d_M_obey_204 : decode b_M_obey 204 = .ok (.invokestatic 179, 3) := by decide +kernel
theorem d_M_obey_207 : decode b_M_obey 207 = .ok (.isub, 1) := by decide +kernel
theorem d_M_obey_208 : decode b_M_obey 208 = .ok (.istore_n 3, 1) := by decide +kernel
theorem d_M_obey_209 : decode b_M_obey 209 = .ok (.iload_n 2, 1) := by decide +kernel
theorem d_M_obey_210 : decode b_M_obey 210 = .ok (.iload_n 3, 1) := by decide +kernel
theorem d_M_obey_211 : decode b_M_obey 211 = .ok (.invokestatic 163, 3) := by decide +kernel
theorem d_M_obey_214 : decode b_M_obey 214 = .ok (.ifCond .eq 24, 3) := by decide +kernel
theorem d_M_obey_217 : decode b_M_obey 217 = .ok (.aload_n 0, 1) := by decide +kernel
theorem d_M_obey_218 : decode b_M_obey 218 = .ok (.getfield 74, 3) := by decide +kernel
theorem d_M_obey_221 : decode b_M_obey 221 = .ok (.iload_n 3, 1) := by decide +kernel
theorem d_M_obey_222 : decode b_M_obey 222 = .ok (.iaload, 1) := by decide +kernel
theorem d_M_obey_223 : decode b_M_obey 223 = .ok (.iload_n 2, 1) := by decide +kernel
theorem d_M_obey_224 : decode b_M_obey 224 = .ok (.invokestatic 131, 3) := by decide +kernel
theorem d_M_obey_227 : decode b_M_obey 227 = .ok (.iconst 1, 1) := by decide +kernel
theorem d_M_obey_228 : decode b_M_obey 228 = .ok (.if_icmp .ne 10, 3) := by decide +kernel
theorem d_M_obey_231 : decode b_M_obey 231 = .ok (.aload_n 0, 1) := by decide +kernel
theorem d_M_obey_232 : decode b_M_obey 232 = .ok (.iload_n 2, 1) := by decide +kernel
theorem d_M_obey_233 : decode b_M_obey 233 = .ok (.iload_n 3, 1) := by decide +kernel
theorem d_M_obey_234 : decode b_M_obey 234 = .ok (.iconst 2, 1) := by decide +kernel
theorem d_M_obey_235 : decode b_M_obey 235 = .ok (.invokevirtual 185, 3) := by decide +kernel
theorem d_M_obey_238 : decode b_M_obey 238 = .ok (.return_, 1) := by decide +kernel
theorem d_M_obey_239 : decode b_M_obey 239 = .ok (.aload_n 0, 1) := by decide +kernel
theorem d_M_obey_240 : decode b_M_obey 240 = .ok (.aload_n 0, 1) := by decide +kernel
theorem d_M_obey_241 : decode b_M_obey 241 = .ok (.getfield 167, 3) := by decide +kernel
theorem d_M_obey_244 : decode b_M_obey 244 = .ok (.aload_n 0, 1) := by decide +kernel
theorem d_M_obey_245 : decode b_M_obey 245 = .ok (.getfield 176, 3) := by decide +kernel
theorem d_M_obey_248 : decode b_M_obey 248 = .ok (.iconst 0, 1) := by decide +kernel
theorem d_M_obey_249 : decode b_M_obey 249 = .ok (.invokevirtual 185, 3) := by decide +kernel
theorem d_M_obey_252 : decode b_M_obey 252 = .ok (.return_, 1) := by decide +kernel
theorem d_M_obey_253 : decode b_M_obey 253 = .ok (.aload_n 0, 1) := by decide +kernel
theorem d_M_obey_254 : decode b_M_obey 254 = .ok (.iconst 1, 1) := by decide +kernel
theorem d_M_obey_255 : decode b_M_obey 255 = .ok (.iconst 1, 1) := by decide +kernel
theorem d_M_obey_256 : decode b_M_obey 256 = .ok (.iconst 0, 1) := by decide +kernel
theorem d_M_obey_257 : decode b_M_obey 257 = .ok (.invokevirtual 192, 3) := by decide +kernel
theorem d_M_obey_260 : decode b_M_obey 260 = .ok (.aload_n 0, 1) := by decide +kernel
theorem d_M_obey_261 : decode b_M_obey 261 = .ok (.iconst 1, 1) := by decide +kernel
theorem d_M_obey_262 : decode b_M_obey 262 = .ok (.iconst 0, 1) := by decide +kernel
theorem d_M_obey_263 : decode b_M_obey 263 = .ok (.iconst 1, 1) := by decide +kernel
theorem d_M_obey_264 : decode b_M_obey 264 = .ok (.invokevirtual 192, 3) := by decide +kernel
theorem d_M_obey_267 : decode b_M_obey 267 = .ok (.aload_n 0, 1) := by decide +kernel
theorem d_M_obey_268 : decode b_M_obey 268 = .ok (.iconst 1, 1) := by decide +kernel
theorem d_M_obey_269 : decode b_M_obey 269 = .ok (.iconst 1, 1) := by decide +kernel
theorem d_M_obey_270 : decode b_M_obey 270 = .ok (.iconst 1, 1) := by decide +kernel
theorem d_M_obey_271 : decode b_M_obey 271 = .ok (.invokevirtual 192, 3) := by decide +kernel
theorem d_M_obey_274 : decode b_M_obey 274 = .ok (.aload_n 0, 1) := by decide +kernel
theorem d_M_obey_275 : decode b_M_obey 275 = .ok (.iconst 1, 1) := by decide +kernel
theorem d_M_obey_276 : decode b_M_obey 276 = .ok (.iconst 1, 1) := by decide +kernel
theorem d_M_obey_277 : decode b_M_obey 277 = .ok (.iconst 0, 1) := by decide +kernel
theorem d_M_obey_278 : decode b_M_obey 278 = .ok (.invokevirtual 192, 3) := by decide +kernel
theorem d_M_obey_281 : decode b_M_obey 281 = .ok (.return_, 1) := by decide +kernel
abbrev b_M_open : ByteArray := prog_9_method_26_code
theorem d_M_open_0 : decode b_M_open 0 = .ok (.aload_n 0, 1) := by decide +kernel
theorem d_M_open_1 : decode b_M_open 1 = .ok (.getfield 77, 3) := by decide +kernel
theorem d_M_open_4 : decode b_M_open 4 = .ok (.aload_n 0, 1) := by decide +kernel
theorem d_M_open_5 : decode b_M_open 5 = .ok (.getfield 196, 3) := by decide +kernel
theorem d_M_open_8 : decode b_M_open 8 = .ok (.iload_n 1, 1) := by decide +kernel
theorem d_M_open_9 : decode b_M_open 9 = .ok (.iastore, 1) := by decide +kernel
theorem d_M_open_10 : decode b_M_open 10 = .ok (.aload_n 0, 1) := by decide +kernel
theorem d_M_open_11 : decode b_M_open 11 = .ok (.getfield 80, 3) := by decide +kernel
theorem d_M_open_14 : decode b_M_open 14 = .ok (.aload_n 0, 1) := by decide +kernel
theorem d_M_open_15 : decode b_M_open 15 = .ok (.getfield 196, 3) := by decide +kernel
theorem d_M_open_18 : decode b_M_open 18 = .ok (.iload_n 2, 1) := by decide +kernel
theorem d_M_open_19 : decode b_M_open 19 = .ok (.iastore, 1) := by decide +kernel
theorem d_M_open_20 : decode b_M_open 20 = .ok (.aload_n 0, 1) := by decide +kernel
theorem d_M_open_21 : decode b_M_open 21 = .ok (.getfield 83, 3) := by decide +kernel
theorem d_M_open_24 : decode b_M_open 24 = .ok (.aload_n 0, 1) := by decide +kernel
theorem d_M_open_25 : decode b_M_open 25 = .ok (.getfield 196, 3) := by decide +kernel
theorem d_M_open_28 : decode b_M_open 28 = .ok (.iload_n 3, 1) := by decide +kernel
theorem d_M_open_29 : decode b_M_open 29 = .ok (.iastore, 1) := by decide +kernel
theorem d_M_open_30 : decode b_M_open 30 = .ok (.aload_n 0, 1) := by decide +kernel
theorem d_M_open_31 : decode b_M_open 31 = .ok (.getfield 86, 3) := by decide +kernel
theorem d_M_open_34 : decode b_M_open 34 = .ok (.aload_n 0, 1) := by decide +kernel
theorem d_M_open_35 : decode b_M_open 35 = .ok (.getfield 196, 3) := by decide +kernel
theorem d_M_open_38 : decode b_M_open 38 = .ok (.iload 4, 2) := by decide +kernel
theorem d_M_open_40 : decode b_M_open 40 = .ok (.iastore, 1) := by decide +kernel
theorem d_M_open_41 : decode b_M_open 41 = .ok (.aload_n 0, 1) := by decide +kernel
theorem d_M_open_42 : decode b_M_open 42 = .ok (.dup, 1) := by decide +kernel
theorem d_M_open_43 : decode b_M_open 43 = .ok (.getfield 196, 3) := by decide +kernel
theorem d_M_open_46 : decode b_M_open 46 = .ok (.iconst 1, 1) := by decide +kernel
theorem d_M_open_47 : decode b_M_open 47 = .ok (.iadd, 1) := by decide +kernel
theorem d_M_open_48 : decode b_M_open 48 = .ok (.putfield 196, 3) := by decide +kernel
theorem d_M_open_51 : decode b_M_open 51 = .ok (.aload_n 0, 1) := by decide +kernel
theorem d_M_open_52 : decode b_M_open 52 = .ok (.invokevirtual 199, 3) := by decide +kernel
theorem d_M_open_55 : decode b_M_open 55 = .ok (.return_, 1) := by decide +kernel
abbrev b_M_again : ByteArray := prog_9_method_27_code
theorem d_M_again_0 : decode b_M_again 0 = .ok (.aload_n 0, 1) := by decide +kernel
theorem d_M_again_1 : decode b_M_again 1 = .ok (.getfield 196, 3) := by decide +kernel
theorem d_M_again_4 : decode b_M_again 4 = .ok (.iconst 1, 1) := by decide +kernel
theorem d_M_again_5 : decode b_M_again 5 = .ok (.isub, 1) := by decide +kernel
theorem d_M_again_6 : decode b_M_again 6 = .ok (.istore_n 1, 1) := by decide +kernel
theorem d_M_again_7 : decode b_M_again 7 = .ok (.aload_n 0, 1) := by decide +kernel
theorem d_M_again_8 : decode b_M_again 8 = .ok (.invokevirtual 189, 3) := by decide +kernel
theorem d_M_again_11 : decode b_M_again 11 = .ok (.aload_n 0, 1) := by decide +kernel
theorem d_M_again_12 : decode b_M_again 12 = .ok (.getfield 86, 3) := by decide +kernel
theorem d_M_again_15 : decode b_M_again 15 = .ok (.iload_n 1, 1) := by decide +kernel
theorem d_M_again_16 : decode b_M_again 16 = .ok (.dup2, 1) := by decide +kernel
theorem d_M_again_17 : decode b_M_again 17 = .ok (.iaload, 1) := by decide +kernel
theorem d_M_again_18 : decode b_M_again 18 = .ok (.iconst 1, 1) := by decide +kernel
theorem d_M_again_19 : decode b_M_again 19 = .ok (.isub, 1) := by decide +kernel
theorem d_M_again_20 : decode b_M_again 20 = .ok (.iastore, 1) := by decide +kernel
theorem d_M_again_21 : decode b_M_again 21 = .ok (.aload_n 0, 1) := by decide +kernel
theorem d_M_again_22 : decode b_M_again 22 = .ok (.getfield 89, 3) := by decide +kernel
theorem d_M_again_25 : decode b_M_again 25 = .ok (.iload_n 1, 1) := by decide +kernel
theorem d_M_again_26 : decode b_M_again 26 = .ok (.aload_n 0, 1) := by decide +kernel
theorem d_M_again_27 : decode b_M_again 27 = .ok (.getfield 167, 3) := by decide +kernel
theorem d_M_again_30 : decode b_M_again 30 = .ok (.iastore, 1) := by decide +kernel
theorem d_M_again_31 : decode b_M_again 31 = .ok (.aload_n 0, 1) := by decide +kernel
theorem d_M_again_32 : decode b_M_again 32 = .ok (.getfield 92, 3) := by decide +kernel
theorem d_M_again_35 : decode b_M_again 35 = .ok (.iload_n 1, 1) := by decide +kernel
theorem d_M_again_36 : decode b_M_again 36 = .ok (.aload_n 0, 1) := by decide +kernel
theorem d_M_again_37 : decode b_M_again 37 = .ok (.getfield 176, 3) := by decide +kernel
theorem d_M_again_40 : decode b_M_again 40 = .ok (.iastore, 1) := by decide +kernel
theorem d_M_again_41 : decode b_M_again 41 = .ok (.aload_n 0, 1) := by decide +kernel
theorem d_M_again_42 : decode b_M_again 42 = .ok (.getfield 95, 3) := by decide +kernel
theorem d_M_again_45 : decode b_M_again 45 = .ok (.iload_n 1, 1) := by decide +kernel
theorem d_M_again_46 : decode b_M_again 46 = .ok (.aload_n 0, 1) := by decide +kernel
theorem d_M_again_47 : decode b_M_again 47 = .ok (.getfield 170, 3) := by decide +kernel
theorem d_M_again_50 : decode b_M_again 50 = .ok (.iastore, 1) := by decide +kernel
theorem d_M_again_51 : decode b_M_again 51 = .ok (.aload_n 0, 1) := by decide +kernel
theorem d_M_again_52 : decode b_M_again 52 = .ok (.getfield 98, 3) := by decide +kernel
theorem d_M_again_55 : decode b_M_again 55 = .ok (.iload_n 1, 1) := by decide +kernel
theorem d_M_again_56 : decode b_M_again 56 = .ok (.aload_n 0, 1) := by decide +kernel
theorem d_M_again_57 : decode b_M_again 57 = .ok (.getfield 182, 3) := by decide +kernel
theorem d_M_again_60 : decode b_M_again 60 = .ok (.bastore, 1) := by decide +kernel
theorem d_M_again_61 : decode b_M_again 61 = .ok (.return_, 1) := by decide +kernel
abbrev b_M_comeBack : ByteArray := prog_9_method_28_code
theorem d_M_comeBack_0 : decode b_M_comeBack 0 = .ok (.aload_n 0, 1) := by decide +kernel
theorem d_M_comeBack_1 : decode b_M_comeBack 1 = .ok (.getfield 196, 3) := by decide +kernel
theorem d_M_comeBack_4 : decode b_M_comeBack 4 = .ok (.iconst 1, 1) := by decide +kernel
theorem d_M_comeBack_5 : decode b_M_comeBack 5 = .ok (.isub, 1) := by decide +kernel
theorem d_M_comeBack_6 : decode b_M_comeBack 6 = .ok (.istore_n 1, 1) := by decide +kernel
theorem d_M_comeBack_7 : decode b_M_comeBack 7 = .ok (.aload_n 0, 1) := by decide +kernel
theorem d_M_comeBack_8 : decode b_M_comeBack 8 = .ok (.aload_n 0, 1) := by decide +kernel
theorem d_M_comeBack_9 : decode b_M_comeBack 9 = .ok (.getfield 89, 3) := by decide +kernel
theorem d_M_comeBack_12 : decode b_M_comeBack 12 = .ok (.iload_n 1, 1) := by decide +kernel
theorem d_M_comeBack_13 : decode b_M_comeBack 13 = .ok (.iaload, 1) := by decide +kernel
theorem d_M_comeBack_14 : decode b_M_comeBack 14 = .ok (.putfield 167, 3) := by decide +kernel
theorem d_M_comeBack_17 : decode b_M_comeBack 17 = .ok (.aload_n 0, 1) := by decide +kernel
theorem d_M_comeBack_18 : decode b_M_comeBack 18 = .ok (.aload_n 0, 1) := by decide +kernel
theorem d_M_comeBack_19 : decode b_M_comeBack 19 = .ok (.getfield 92, 3) := by decide +kernel
theorem d_M_comeBack_22 : decode b_M_comeBack 22 = .ok (.iload_n 1, 1) := by decide +kernel
theorem d_M_comeBack_23 : decode b_M_comeBack 23 = .ok (.iaload, 1) := by decide +kernel
theorem d_M_comeBack_24 : decode b_M_comeBack 24 = .ok (.putfield 176, 3) := by decide +kernel
theorem d_M_comeBack_27 : decode b_M_comeBack 27 = .ok (.aload_n 0, 1) := by decide +kernel
theorem d_M_comeBack_28 : decode b_M_comeBack 28 = .ok (.aload_n 0, 1) := by decide +kernel
theorem d_M_comeBack_29 : decode b_M_comeBack 29 = .ok (.getfield 95, 3) := by decide +kernel
theorem d_M_comeBack_32 : decode b_M_comeBack 32 = .ok (.iload_n 1, 1) := by decide +kernel
theorem d_M_comeBack_33 : decode b_M_comeBack 33 = .ok (.iaload, 1) := by decide +kernel
theorem d_M_comeBack_34 : decode b_M_comeBack 34 = .ok (.putfield 170, 3) := by decide +kernel
theorem d_M_comeBack_37 : decode b_M_comeBack 37 = .ok (.aload_n 0, 1) := by decide +kernel
theorem d_M_comeBack_38 : decode b_M_comeBack 38 = .ok (.aload_n 0, 1) := by decide +kernel
theorem d_M_comeBack_39 : decode b_M_comeBack 39 = .ok (.getfield 98, 3) := by decide +kernel
theorem d_M_comeBack_42 : decode b_M_comeBack 42 = .ok (.iload_n 1, 1) := by decide +kernel
theorem d_M_comeBack_43 : decode b_M_comeBack 43 = .ok (.baload, 1) := by decide +kernel
theorem d_M_comeBack_44 : decode b_M_comeBack 44 = .ok (.putfield 182, 3) := by decide +kernel
theorem d_M_comeBack_47 : decode b_M_comeBack 47 = .ok (.return_, 1) := by decide +kernel
abbrev b_M_behind : ByteArray := prog_9_method_29_code
theorem d_M_behind_0 : decode b_M_behind 0 = .ok (.iconst 0, 1) := by decide +kernel
theorem d_M_behind_1 : decode b_M_behind 1 = .ok (.istore_n 3, 1) := by decide +kernel
theorem d_M_behind_2 : decode b_M_behind 2 = .ok (.iload_n 2, 1) := by decide +kernel
theorem d_M_behind_3 : decode b_M_behind 3 = .ok (.istore 4, 2) := by decide +kernel
theorem d_M_behind_5 : decode b_M_behind 5 = .ok (.aload_n 0, 1) := by decide +kernel
theorem d_M_behind_6 : decode b_M_behind 6 = .ok (.iload_n 1, 1) := by decide +kernel
theorem d_M_behind_7 : decode b_M_behind 7 = .ok (.iload 4, 2) := by decide +kernel
theorem d_M_behind_9 : decode b_M_behind 9 = .ok (.invokevirtual 143, 3) := by decide +kernel
theorem d_M_behind_12 : decode b_M_behind 12 = .ok (.istore 5, 2) := by decide +kernel
theorem d_M_behind_14 : decode b_M_behind 14 = .ok (.iload_n 3, 1) := by decide +kernel
theorem d_M_behind_15 : decode b_M_behind 15 = .ok (.iload 5, 2) := by decide +kernel
theorem d_M_behind_17 : decode b_M_behind 17 = .ok (.bipush 40, 2) := by decide +kernel
theorem d_M_behind_19 : decode b_M_behind 19 = .ok (.if_icmp .eq 10, 3) := by decide +kernel
theorem d_M_behind_22 : decode b_M_behind 22 = .ok (.iload 5, 2) := by decide +kernel
theorem d_M_behind_24 : decode b_M_behind 24 = .ok (.bipush 91, 2) := by decide +kernel
theorem d_M_behind_26 : decode b_M_behind 26 = .ok (.if_icmp .ne 7, 3) := by decide +kernel
theorem d_M_behind_29 : decode b_M_behind 29 = .ok (.iconst 1, 1) := by decide +kernel
theorem d_M_behind_30 : decode b_M_behind 30 = .ok (.goto 22, 3) := by decide +kernel
theorem d_M_behind_33 : decode b_M_behind 33 = .ok (.iload 5, 2) := by decide +kernel
theorem d_M_behind_35 : decode b_M_behind 35 = .ok (.bipush 41, 2) := by decide +kernel
theorem d_M_behind_37 : decode b_M_behind 37 = .ok (.if_icmp .eq 10, 3) := by decide +kernel
theorem d_M_behind_40 : decode b_M_behind 40 = .ok (.iload 5, 2) := by decide +kernel
theorem d_M_behind_42 : decode b_M_behind 42 = .ok (.bipush 93, 2) := by decide +kernel
theorem d_M_behind_44 : decode b_M_behind 44 = .ok (.if_icmp .ne 7, 3) := by decide +kernel
theorem d_M_behind_47 : decode b_M_behind 47 = .ok (.iconst (-1), 1) := by decide +kernel
theorem d_M_behind_48 : decode b_M_behind 48 = .ok (.goto 4, 3) := by decide +kernel
theorem d_M_behind_51 : decode b_M_behind 51 = .ok (.iconst 0, 1) := by decide +kernel
theorem d_M_behind_52 : decode b_M_behind 52 = .ok (.iadd, 1) := by decide +kernel
theorem d_M_behind_53 : decode b_M_behind 53 = .ok (.istore_n 3, 1) := by decide +kernel
theorem d_M_behind_54 : decode b_M_behind 54 = .ok (.iinc 4 1, 3) := by decide +kernel
theorem d_M_behind_57 : decode b_M_behind 57 = .ok (.iload_n 3, 1) := by decide +kernel
theorem d_M_behind_58 : decode b_M_behind 58 = .ok (.ifCond .gt (-53), 3) := by decide +kernel
theorem d_M_behind_61 : decode b_M_behind 61 = .ok (.iload 4, 2) := by decide +kernel
theorem d_M_behind_63 : decode b_M_behind 63 = .ok (.ireturn, 1) := by decide +kernel
abbrev b_M_goThrough : ByteArray := prog_9_method_30_code
theorem d_M_goThrough_0 : decode b_M_goThrough 0 = .ok (.iconst 4, 1) := by decide +kernel
theorem d_M_goThrough_1 : decode b_M_goThrough 1 = .ok (.istore_n 1, 1) := by decide +kernel
theorem d_M_goThrough_2 : decode b_M_goThrough 2 = .ok (.iconst 0, 1) := by decide +kernel
theorem d_M_goThrough_3 : decode b_M_goThrough 3 = .ok (.istore_n 2, 1) := by decide +kernel
theorem d_M_goThrough_4 : decode b_M_goThrough 4 = .ok (.aload_n 0, 1) := by decide +kernel
theorem d_M_goThrough_5 : decode b_M_goThrough 5 = .ok (.iconst 0, 1) := by decide +kernel
theorem d_M_goThrough_6 : decode b_M_goThrough 6 = .ok (.putfield 196, 3) := by decide +kernel
theorem d_M_goThrough_9 : decode b_M_goThrough 9 = .ok (.aload_n 0, 1) := by decide +kernel
theorem d_M_goThrough_10 : decode b_M_goThrough 10 = .ok (.getfield 159, 3) := by decide +kernel
theorem d_M_goThrough_13 : decode b_M_goThrough 13 = .ok (.ifCond .ne 313, 3) := by decide +kernel
theorem d_M_goThrough_16 : decode b_M_goThrough 16 = .ok (.iload_n 1, 1) := by decide +kernel
theorem d_M_goThrough_17 : decode b_M_goThrough 17 = .ok (.iconst 4, 1) := by decide +kernel
theorem d_M_goThrough_18 : decode b_M_goThrough 18 = .ok (.if_icmp .lt 13, 3) := by decide +kernel
theorem d_M_goThrough_21 : decode b_M_goThrough 21 = .ok (.iload_n 2, 1) := by decide +kernel
theorem d_M_goThrough_22 : decode b_M_goThrough 22 = .ok (.aload_n 0, 1) := by decide +kernel
theorem d_M_goThrough_23 : decode b_M_goThrough 23 = .ok (.getfield 62, 3) := by decide +kernel
theorem d_M_goThrough_26 : decode b_M_goThrough 26 = .ok (.iconst 4, 1) := by decide +kernel
theorem d_M_goThrough_27 : decode b_M_goThrough 27 = .ok (.iaload, 1) := by decide +kernel
theorem d_M_goThrough_28 : decode b_M_goThrough 28 = .ok (.if_icmp .ge 298, 3) := by decide +kernel
theorem d_M_goThrough_31 : decode b_M_goThrough 31 = .ok (.aload_n 0, 1) := by decide +kernel
theorem d_M_goThrough_32 : decode b_M_goThrough 32 = .ok (.iload_n 1, 1) := by decide +kernel
theorem d_M_goThrough_33 : decode b_M_goThrough 33 = .ok (.iload_n 2, 1) := by decide +kernel
theorem d_M_goThrough_34 : decode b_M_goThrough 34 = .ok (.invokevirtual 143, 3) := by decide +kernel
theorem d_M_goThrough_37 : decode b_M_goThrough 37 = .ok (.istore_n 3, 1) := by decide +kernel
theorem d_M_goThrough_38 : decode b_M_goThrough 38 = .ok (.iload_n 3, 1) := by decide +kernel
theorem d_M_goThrough_39 : decode b_M_goThrough 39 = .ok (.ifCond .eq 15, 3) := by decide +kernel
theorem d_M_goThrough_42 : decode b_M_goThrough 42 = .ok (.iload_n 3, 1) := by decide +kernel
theorem d_M_goThrough_43 : decode b_M_goThrough 43 = .ok (.bipush 41, 2) := by decide +kernel
theorem d_M_goThrough_45 : decode b_M_goThrough 45 = .ok (.if_icmp .eq 9, 3) := by decide +kernel
theorem d_M_goThrough_48 : decode b_M_goThrough 48 = .ok (.iload_n 3, 1) := by decide +kernel
theorem d_M_goThrough_49 : decode b_M_goThrough 49 = .ok (.bipush 93, 2) := by decide +kernel
theorem d_M_goThrough_51 : decode b_M_goThrough 51 = .ok (.if_icmp .ne 93, 3) := by decide +kernel
theorem d_M_goThrough_54 : decode b_M_goThrough 54 = .ok (.aload_n 0, 1) := by decide +kernel
theorem d_M_goThrough_55 : decode b_M_goThrough 55 = .ok (.getfield 196, 3) := by decide +kernel
theorem d_M_goThrough_58 : decode b_M_goThrough 58 = .ok (.iconst 1, 1) := by decide +kernel
theorem d_M_goThrough_59 : decode b_M_goThrough 59 = .ok (.isub, 1) := by decide +kernel
theorem d_M_goThrough_60 : decode b_M_goThrough 60 = .ok (.istore 4, 2) := by decide +kernel
theorem d_M_goThrough_62 : decode b_M_goThrough 62 = .ok (.iload_n 3, 1) := by decide +kernel
theorem d_M_goThrough_63 : decode b_M_goThrough 63 = .ok (.bipush 41, 2) := by decide +kernel
theorem d_M_goThrough_65 : decode b_M_goThrough 65 = .ok (.if_icmp .ne 7, 3) := by decide +kernel
theorem d_M_goThrough_68 : decode b_M_goThrough 68 = .ok (.aload_n 0, 1) := by decide +kernel
theorem d_M_goThrough_69 : decode b_M_goThrough 69 = .ok (.invokevirtual 202, 3) := by decide +kernel
theorem d_M_goThrough_72 : decode b_M_goThrough 72 = .ok (.aload_n 0, 1) := by decide +kernel
theorem d_M_goThrough_73 : decode b_M_goThrough 73 = .ok (.getfield 86, 3) := by decide +kernel
theorem d_M_goThrough_76 : decode b_M_goThrough 76 = .ok (.iload 4, 2) := by decide +kernel
theorem d_M_goThrough_78 : decode b_M_goThrough 78 = .ok (.iaload, 1) := by decide +kernel
theorem d_M_goThrough_79 : decode b_M_goThrough 79 = .ok (.ifCond .le 26, 3) := by decide +kernel
theorem d_M_goThrough_82 : decode b_M_goThrough 82 = .ok (.aload_n 0, 1) := by decide +kernel
theorem d_M_goThrough_83 : decode b_M_goThrough 83 = .ok (.invokevirtual 199, 3) := by decide +kernel
theorem d_M_goThrough_86 : decode b_M_goThrough 86 = .ok (.iload_n 3, 1) := by decide +kernel
theorem d_M_goThrough_87 : decode b_M_goThrough 87 = .ok (.ifCond .ne 7, 3) := by decide +kernel
theorem d_M_goThrough_90 : decode b_M_goThrough 90 = .ok (.iconst 0, 1) := by decide +kernel
theorem d_M_goThrough_91 : decode b_M_goThrough 91 = .ok (.goto 10, 3) := by decide +kernel
theorem d_M_goThrough_94 : decode b_M_goThrough 94 = .ok (.aload_n 0, 1) := by decide +kernel
theorem d_M_goThrough_95 : decode b_M_goThrough 95 = .ok (.getfield 83, 3) := by decide +kernel
theorem d_M_goThrough_98 : decode b_M_goThrough 98 = .ok (.iload 4, 2) := by decide +kernel
theorem d_M_goThrough_100 : decode b_M_goThrough 100 = .ok (.iaload, 1) := by decide +kernel
theorem d_M_goThrough_101 : decode b_M_goThrough 101 = .ok (.istore_n 2, 1) := by decide +kernel
theorem d_M_goThrough_102 : decode b_M_goThrough 102 = .ok (.goto (-93), 3) := by decide +kernel
theorem d_M_goThrough_105 : decode b_M_goThrough 105 = .ok (.aload_n 0, 1) := by decide +kernel
theorem d_M_goThrough_106 : decode b_M_goThrough 106 = .ok (.getfield 80, 3) := by decide +kernel
theorem d_M_goThrough_109 : decode b_M_goThrough 109 = .ok (.iload 4, 2) := by decide +kernel
theorem d_M_goThrough_111 : decode b_M_goThrough 111 = .ok (.iaload, 1) := by decide +kernel
theorem d_M_goThrough_112 : decode b_M_goThrough 112 = .ok (.istore_n 1, 1) := by decide +kernel
theorem d_M_goThrough_113 : decode b_M_goThrough 113 = .ok (.iload_n 3, 1) := by decide +kernel
theorem d_M_goThrough_114 : decode b_M_goThrough 114 = .ok (.ifCond .ne 13, 3) := by decide +kernel
theorem d_M_goThrough_117 : decode b_M_goThrough 117 = .ok (.aload_n 0, 1) := by decide +kernel
theorem d_M_goThrough_118 : decode b_M_goThrough 118 = .ok (.getfield 83, 3) := by decide +kernel
theorem d_M_goThrough_121 : decode b_M_goThrough 121 = .ok (.iload 4, 2) := by decide +kernel
theorem d_M_goThrough_123 : decode b_M_goThrough 123 = .ok (.iaload, 1) := by decide +kernel
theorem d_M_goThrough_124 : decode b_M_goThrough 124 = .ok (.goto 6, 3) := by decide +kernel
theorem d_M_goThrough_127 : decode b_M_goThrough 127 = .ok (.iload_n 2, 1) := by decide +kernel
theorem d_M_goThrough_128 : decode b_M_goThrough 128 = .ok (.iconst 1, 1) := by decide +kernel
theorem d_M_goThrough_129 : decode b_M_goThrough 129 = .ok (.iadd, 1) := by decide +kernel
theorem d_M_goThrough_130 : decode b_M_goThrough 130 = .ok (.istore_n 2, 1) := by decide +kernel
theorem d_M_goThrough_131 : decode b_M_goThrough 131 = .ok (.aload_n 0, 1) := by decide +kernel
theorem d_M_goThrough_132 : decode b_M_goThrough 132 = .ok (.dup, 1) := by decide +kernel
theorem d_M_goThrough_133 : decode b_M_goThrough 133 = .ok (.getfield 196, 3) := by decide +kernel
theorem d_M_goThrough_136 : decode b_M_goThrough 136 = .ok (.iconst 1, 1) := by decide +kernel
theorem d_M_goThrough_137 : decode b_M_goThrough 137 = .ok (.isub, 1) := by decide +kernel
theorem d_M_goThrough_138 : decode b_M_goThrough 138 = .ok (.putfield 196, 3) := by decide +kernel
theorem d_M_goThrough_141 : decode b_M_goThrough 141 = .ok (.goto (-132), 3) := by decide +kernel
theorem d_M_goThrough_144 : decode b_M_goThrough 144 = .ok (.iconst 1, 1) := by decide +kernel
theorem d_M_goThrough_145 : decode b_M_goThrough 145 = .ok (.istore 4, 2) := by decide +kernel
theorem d_M_goThrough_147 : decode b_M_goThrough 147 = .ok (.iload_n 3, 1) := by decide +kernel
theorem d_M_goThrough_148 : decode b_M_goThrough 148 = .ok (.invokestatic 145, 3) := by decide +kernel
theorem d_M_goThrough_151 : decode b_M_goThrough 151 = .ok (.ifCond .eq 48, 3) := by decide +kernel
theorem d_M_goThrough_154 : decode b_M_goThrough 154 = .ok (.iconst 0, 1) := by decide +kernel
theorem d_M_goThrough_155 : decode b_M_goThrough 155 = .ok (.istore 4, 2) := by decide +kernel
theorem d_M_goThrough_157 : decode b_M_goThrough 157 = .ok (.aload_n 0, 1) := by decide +kernel
theorem d_M_goThrough_158 : decode b_M_goThrough 158 = .ok (.iload_n 1, 1) := by decide +kernel
theorem d_M_goThrough_159 : decode b_M_goThrough 159 = .ok (.iload_n 2, 1) := by decide +kernel
theorem d_M_goThrough_160 : decode b_M_goThrough 160 = .ok (.invokevirtual 143, 3) := by decide +kernel
theorem d_M_goThrough_163 : decode b_M_goThrough 163 = .ok (.invokestatic 145, 3) := by decide +kernel
theorem d_M_goThrough_166 : decode b_M_goThrough 166 = .ok (.ifCond .eq 26, 3) := by decide +kernel
theorem d_M_goThrough_169 : decode b_M_goThrough 169 = .ok (.bipush 10, 2) := by decide +kernel
theorem d_M_goThrough_171 : decode b_M_goThrough 171 = .ok (.iload 4, 2) := by decide +kernel
theorem d_M_goThrough_173 : decode b_M_goThrough 173 = .ok (.imul, 1) := by decide +kernel
theorem d_M_goThrough_174 : decode b_M_goThrough 174 = .ok (.aload_n 0, 1) := by decide +kernel
theorem d_M_goThrough_175 : decode b_M_goThrough 175 = .ok (.iload_n 1, 1) := by decide +kernel
theorem d_M_goThrough_176 : decode b_M_goThrough 176 = .ok (.iload_n 2, 1) := by decide +kernel
theorem d_M_goThrough_177 : decode b_M_goThrough 177 = .ok (.invokevirtual 143, 3) := by decide +kernel
theorem d_M_goThrough_180 : decode b_M_goThrough 180 = .ok (.iadd, 1) := by decide +kernel
theorem d_M_goThrough_181 : decode b_M_goThrough 181 = .ok (.bipush 48, 2) := by decide +kernel
theorem d_M_goThrough_183 : decode b_M_goThrough 183 = .ok (.isub, 1) := by decide +kernel
theorem d_M_goThrough_184 : decode b_M_goThrough 184 = .ok (.istore 4, 2) := by decide +kernel
theorem d_M_goThrough_186 : decode b_M_goThrough 186 = .ok (.iinc 2 1, 3) := by decide +kernel
theorem d_M_goThrough_189 : decode b_M_goThrough 189 = .ok (.goto (-32), 3) := by decide +kernel
theorem d_M_goThrough_192 : decode b_M_goThrough 192 = .ok (.aload_n 0, 1) := by decide +kernel
theorem d_M_goThrough_193 : decode b_M_goThrough 193 = .ok (.iload_n 1, 1) := by decide +kernel
theorem d_M_goThrough_194 : decode b_M_goThrough 194 = .ok (.iload_n 2, 1) := by decide +kernel
theorem d_M_goThrough_195 : decode b_M_goThrough 195 = .ok (.invokevirtual 143, 3) := by decide +kernel
theorem d_M_goThrough_198 : decode b_M_goThrough 198 = .ok (.istore_n 3, 1) := by decide +kernel
theorem d_M_goThrough_199 : decode b_M_goThrough 199 = .ok (.iload_n 3, 1) := by decide +kernel
theorem d_M_goThrough_200 : decode b_M_goThrough 200 = .ok (.bipush 40, 2) := by decide +kernel
theorem d_M_goThrough_202 : decode b_M_goThrough 202 = .ok (.if_icmp .eq 9, 3) := by decide +kernel
theorem d_M_goThrough_205 : decode b_M_goThrough 205 = .ok (.iload_n 3, 1) := by decide +kernel
theorem d_M_goThrough_206 : decode b_M_goThrough 206 = .ok (.bipush 91, 2) := by decide +kernel
theorem d_M_goThrough_208 : decode b_M_goThrough 208 = .ok (.if_icmp .ne 40, 3) := by decide +kernel
theorem d_M_goThrough_211 : decode b_M_goThrough 211 = .ok (.iload 4, 2) := by decide +kernel
theorem d_M_goThrough_213 : decode b_M_goThrough 213 = .ok (.ifCond .le 14, 3) := by decide +kernel
theorem d_M_goThrough_216 : decode b_M_goThrough 216 = .ok (.aload_n 0, 1) := by decide +kernel
theorem d_M_goThrough_217 : decode b_M_goThrough 217 = .ok (.iload_n 3, 1) := by decide +kernel
theorem d_M_goThrough_218 : decode b_M_goThrough 218 = .ok (.iload_n 1, 1) := by decide +kernel
theorem d_M_goThrough_219 : decode b_M_goThrough 219 = .ok (.iload_n 2, 1) := by decide +kernel
theorem d_M_goThrough_220 : decode b_M_goThrough 220 = .ok (.iconst 1, 1) := by decide +kernel
theorem d_M_goThrough_221 : decode b_M_goThrough 221 = .ok (.iadd, 1) := by decide +kernel
theorem d_M_goThrough_222 : decode b_M_goThrough 222 = .ok (.iload 4, 2) := by decide +kernel
theorem d_M_goThrough_224 : decode b_M_goThrough 224 = .ok (.invokevirtual 205, 3) := by decide +kernel
theorem d_M_goThrough_227 : decode b_M_goThrough 227 = .ok (.iload 4, 2) := by decide +kernel
theorem d_M_goThrough_229 : decode b_M_goThrough 229 = .ok (.ifCond .le 9, 3) := by decide +kernel
theorem d_M_goThrough_232 : decode b_M_goThrough 232 = .ok (.iload_n 2, 1) := by decide +kernel
theorem d_M_goThrough_233 : decode b_M_goThrough 233 = .ok (.iconst 1, 1) := by decide +kernel
theorem d_M_goThrough_234 : decode b_M_goThrough 234 = .ok (.iadd, 1) := by decide +kernel
theorem d_M_goThrough_235 : decode b_M_goThrough 235 = .ok (.goto 9, 3) := by decide +kernel
theorem d_M_goThrough_238 : decode b_M_goThrough 238 = .ok (.aload_n 0, 1) := by decide +kernel
theorem d_M_goThrough_239 : decode b_M_goThrough 239 = .ok (.iload_n 1, 1) := by decide +kernel
theorem d_M_goThrough_240 : decode b_M_goThrough 240 = .ok (.iload_n 2, 1) := by decide +kernel
theorem d_M_goThrough_241 : decode b_M_goThrough 241 = .ok (.invokevirtual 209, 3) := by decide +kernel
theorem d_M_goThrough_244 : decode b_M_goThrough 244 = .ok (.istore_n 2, 1) := by decide +kernel
theorem d_M_goThrough_245 : decode b_M_goThrough 245 = .ok (.goto 78, 3) := by decide +kernel
theorem d_M_goThrough_248 : decode b_M_goThrough 248 = .ok (.iload_n 3, 1) := by decide +kernel
theorem d_M_goThrough_249 : decode b_M_goThrough 249 = .ok (.bipush 64, 2) := by decide +kernel
theorem d_M_goThrough_251 : decode b_M_goThrough 251 = .ok (.if_icmp .ne 41, 3) := by decide +kernel
theorem d_M_goThrough_254 : decode b_M_goThrough 254 = .ok (.aload_n 0, 1) := by decide +kernel
theorem d_M_goThrough_255 : decode b_M_goThrough 255 = .ok (.iload_n 1, 1) := by decide +kernel
theorem d_M_goThrough_256 : decode b_M_goThrough 256 = .ok (.iload_n 2, 1) := by decide +kernel
theorem d_M_goThrough_257 : decode b_M_goThrough 257 = .ok (.iconst 1, 1) := by decide +kernel
theorem d_M_goThrough_258 : decode b_M_goThrough 258 = .ok (.iadd, 1) := by decide +kernel
theorem d_M_goThrough_259 : decode b_M_goThrough 259 = .ok (.invokevirtual 143, 3) := by decide +kernel
theorem d_M_goThrough_262 : decode b_M_goThrough 262 = .ok (.bipush 97, 2) := by decide +kernel
theorem d_M_goThrough_264 : decode b_M_goThrough 264 = .ok (.isub, 1) := by decide +kernel
theorem d_M_goThrough_265 : decode b_M_goThrough 265 = .ok (.istore 5, 2) := by decide +kernel
theorem d_M_goThrough_267 : decode b_M_goThrough 267 = .ok (.iinc 2 2, 3) := by decide +kernel
theorem d_M_goThrough_270 : decode b_M_goThrough 270 = .ok (.iload 4, 2) := by decide +kernel
theorem d_M_goThrough_272 : decode b_M_goThrough 272 = .ok (.ifCond .le 17, 3) := by decide +kernel
theorem d_M_goThrough_275 : decode b_M_goThrough 275 = .ok (.aload_n 0, 1) := by decide +kernel
theorem d_M_goThrough_276 : decode b_M_goThrough 276 = .ok (.iload_n 3, 1) := by decide +kernel
theorem d_M_goThrough_277 : decode b_M_goThrough 277 = .ok (.iload_n 1, 1) := by decide +kernel
theorem d_M_goThrough_278 : decode b_M_goThrough 278 = .ok (.iload_n 2, 1) := by decide +kernel
theorem d_M_goThrough_279 : decode b_M_goThrough 279 = .ok (.iload 4, 2) := by decide +kernel
theorem d_M_goThrough_281 : decode b_M_goThrough 281 = .ok (.invokevirtual 205, 3) := by decide +kernel
theorem d_M_goThrough_284 : decode b_M_goThrough 284 = .ok (.iload 5, 2) := by decide +kernel
theorem d_M_goThrough_286 : decode b_M_goThrough 286 = .ok (.istore_n 1, 1) := by decide +kernel
theorem d_M_goThrough_287 : decode b_M_goThrough 287 = .ok (.iconst 0, 1) := by decide +kernel
theorem d_M_goThrough_288 : decode b_M_goThrough 288 = .ok (.istore_n 2, 1) := by decide +kernel
theorem d_M_goThrough_289 : decode b_M_goThrough 289 = .ok (.goto 34, 3) := by decide +kernel
theorem d_M_goThrough_292 : decode b_M_goThrough 292 = .ok (.iconst 0, 1) := by decide +kernel
theorem d_M_goThrough_293 : decode b_M_goThrough 293 = .ok (.istore 5, 2) := by decide +kernel
theorem d_M_goThrough_295 : decode b_M_goThrough 295 = .ok (.iload 5, 2) := by decide +kernel
theorem d_M_goThrough_297 : decode b_M_goThrough 297 = .ok (.iload 4, 2) := by decide +kernel
theorem d_M_goThrough_299 : decode b_M_goThrough 299 = .ok (.if_icmp .ge 21, 3) := by decide +kernel
theorem d_M_goThrough_302 : decode b_M_goThrough 302 = .ok (.aload_n 0, 1) := by decide +kernel
theorem d_M_goThrough_303 : decode b_M_goThrough 303 = .ok (.getfield 159, 3) := by decide +kernel
theorem d_M_goThrough_306 : decode b_M_goThrough 306 = .ok (.ifCond .ne 14, 3) := by decide +kernel
theorem d_M_goThrough_309 : decode b_M_goThrough 309 = .ok (.aload_n 0, 1) := by decide +kernel
theorem d_M_goThrough_310 : decode b_M_goThrough 310 = .ok (.iload_n 3, 1) := by decide +kernel
theorem d_M_goThrough_311 : decode b_M_goThrough 311 = .ok (.invokevirtual 212, 3) := by decide +kernel
theorem d_M_goThrough_314 : decode b_M_goThrough 314 = .ok (.iinc 5 1, 3) := by decide +kernel
theorem d_M_goThrough_317 : decode b_M_goThrough 317 = .ok (.goto (-22), 3) := by decide +kernel
theorem d_M_goThrough_320 : decode b_M_goThrough 320 = .ok (.iinc 2 1, 3) := by decide +kernel
theorem d_M_goThrough_323 : decode b_M_goThrough 323 = .ok (.goto (-314), 3) := by decide +kernel
theorem d_M_goThrough_326 : decode b_M_goThrough 326 = .ok (.return_, 1) := by decide +kernel
abbrev b_M_draw : ByteArray := prog_9_method_31_code
theorem d_M_draw_0 : decode b_M_draw 0 = .ok (.aload_n 0, 1) := by decide +kernel
theorem d_M_draw_1 : decode b_M_draw 1 = .ok (.iload_n 1, 1) := by decide +kernel
theorem d_M_draw_2 : decode b_M_draw 2 = .ok (.iload_n 2, 1) := by decide +kernel
theorem d_M_draw_3 : decode b_M_draw 3 = .ok (.invokestatic 163, 3) := by decide +kernel
theorem d_M_draw_6 : decode b_M_draw 6 = .ok (.ifCond .eq 12, 3) := by decide +kernel
theorem d_M_draw_9 : decode b_M_draw 9 = .ok (.iload_n 3, 1) := by decide +kernel
theorem d_M_draw_10 : decode b_M_draw 10 = .ok (.ifCond .lt 8, 3) := by decide +kernel
theorem d_M_draw_13 : decode b_M_draw 13 = .ok (.iload_n 3, 1) := by decide +kernel
theorem d_M_draw_14 : decode b_M_draw 14 = .ok (.iconst 3, 1) := by decide +kernel
theorem d_M_draw_15 : decode b_M_draw 15 = .ok (.if_icmp .le 7, 3) := by decide +kernel
theorem d_M_draw_18 : decode b_M_draw 18 = .ok (.iconst 1, 1) := by decide +kernel
theorem d_M_draw_19 : decode b_M_draw 19 = .ok (.goto 22, 3) := by decide +kernel
theorem d_M_draw_22 : decode b_M_draw 22 = .ok (.aload_n 0, 1) := by decide +kernel
theorem d_M_draw_23 : decode b_M_draw 23 = .ok (.invokevirtual 152, 3) := by decide +kernel
theorem d_M_draw_26 : decode b_M_draw 26 = .ok (.ifCond .eq 10, 3) := by decide +kernel
theorem d_M_draw_29 : decode b_M_draw 29 = .ok (.aload_n 0, 1) := by decide +kernel
theorem d_M_draw_30 : decode b_M_draw 30 = .ok (.invokevirtual 216, 3) := by decide +kernel
theorem d_M_draw_33 : decode b_M_draw 33 = .ok (.ifCond .ne 7, 3) := by decide +kernel
theorem d_M_draw_36 : decode b_M_draw 36 = .ok (.iconst 2, 1) := by decide +kernel
theorem d_M_draw_37 : decode b_M_draw 37 = .ok (.goto 4, 3) := by decide +kernel
theorem d_M_draw_40 : decode b_M_draw 40 = .ok (.iconst 0, 1) := by decide +kernel
theorem d_M_draw_41 : decode b_M_draw 41 = .ok (.putfield 102, 3) := by decide +kernel
theorem d_M_draw_44 : decode b_M_draw 44 = .ok (.aload_n 0, 1) := by decide +kernel
theorem d_M_draw_45 : decode b_M_draw 45 = .ok (.getfield 102, 3) := by decide +kernel
theorem d_M_draw_48 : decode b_M_draw 48 = .ok (.ifCond .le 5, 3) := by decide +kernel
theorem d_M_draw_51 : decode b_M_draw 51 = .ok (.iconst 0, 1) := by decide +kernel
theorem d_M_draw_52 : decode b_M_draw 52 = .ok (.ireturn, 1) := by decide +kernel
theorem d_M_draw_53 : decode b_M_draw 53 = .ok (.iconst 0, 1) := by decide +kernel
theorem d_M_draw_54 : decode b_M_draw 54 = .ok (.istore 4, 2) := by decide +kernel
theorem d_M_draw_56 : decode b_M_draw 56 = .ok (.iload 4, 2) := by decide +kernel
theorem d_M_draw_58 : decode b_M_draw 58 = .ok (.bipush 24, 2) := by decide +kernel
theorem d_M_draw_60 : decode b_M_draw 60 = .ok (.if_icmp .ge 51, 3) := by decide +kernel
theorem d_M_draw_63 : decode b_M_draw 63 = .ok (.aload_n 0, 1) := by decide +kernel
theorem d_M_draw_64 : decode b_M_draw 64 = .ok (.getfield 68, 3) := by decide +kernel
theorem d_M_draw_67 : decode b_M_draw 67 = .ok (.iload 4, 2) := by decide +kernel
theorem d_M_draw_69 : decode b_M_draw 69 = .ok (.aload_n 0, 1) := by decide +kernel
theorem d_M_draw_70 : decode b_M_draw 70 = .ok (.getfield 7, 3) := by decide +kernel
theorem d_M_draw_73 : decode b_M_draw 73 = .ok (.iload 4, 2) := by decide +kernel
theorem d_M_draw_75 : decode b_M_draw 75 = .ok (.iaload, 1) := by decide +kernel
theorem d_M_draw_76 : decode b_M_draw 76 = .ok (.iastore, 1) := by decide +kernel
theorem d_M_draw_77 : decode b_M_draw 77 = .ok (.aload_n 0, 1) := by decide +kernel
theorem d_M_draw_78 : decode b_M_draw 78 = .ok (.getfield 71, 3) := by decide +kernel
theorem d_M_draw_81 : decode b_M_draw 81 = .ok (.iload 4, 2) := by decide +kernel
theorem d_M_draw_83 : decode b_M_draw 83 = .ok (.aload_n 0, 1) := by decide +kernel
theorem d_M_draw_84 : decode b_M_draw 84 = .ok (.getfield 13, 3) := by decide +kernel
theorem d_M_draw_87 : decode b_M_draw 87 = .ok (.iload 4, 2) := by decide +kernel
theorem d_M_draw_89 : decode b_M_draw 89 = .ok (.iaload, 1) := by decide +kernel
theorem d_M_draw_90 : decode b_M_draw 90 = .ok (.iastore, 1) := by decide +kernel
theorem d_M_draw_91 : decode b_M_draw 91 = .ok (.aload_n 0, 1) := by decide +kernel
theorem d_M_draw_92 : decode b_M_draw 92 = .ok (.getfield 74, 3) := by decide +kernel
theorem d_M_draw_95 : decode b_M_draw 95 = .ok (.iload 4, 2) := by decide +kernel
theorem d_M_draw_97 : decode b_M_draw 97 = .ok (.aload_n 0, 1) := by decide +kernel
theorem d_M_draw_98 : decode b_M_draw 98 = .ok (.getfield 16, 3) := by decide +kernel
theorem d_M_draw_101 : decode b_M_draw 101 = .ok (.iload 4, 2) := by decide +kernel
theorem d_M_draw_103 : decode b_M_draw 103 = .ok (.iaload, 1) := by decide +kernel
theorem d_M_draw_104 : decode b_M_draw 104 = .ok (.iastore, 1) := by decide +kernel
theorem d_M_draw_105 : decode b_M_draw 105 = .ok (.iinc 4 1, 3) := by decide +kernel
theorem d_M_draw_108 : decode b_M_draw 108 = .ok (.goto (-52), 3) := by decide +kernel
theorem d_M_draw_111 : decode b_M_draw 111 = .ok (.aload_n 0, 1) := by decide +kernel
theorem d_M_draw_112 : decode b_M_draw 112 = .ok (.iload_n 1, 1) := by decide +kernel
theorem d_M_draw_113 : decode b_M_draw 113 = .ok (.putfield 167, 3) := by decide +kernel
theorem d_M_draw_116 : decode b_M_draw 116 = .ok (.aload_n 0, 1) := by decide +kernel
theorem d_M_draw_117 : decode b_M_draw 117 = .ok (.iload_n 2, 1) := by decide +kernel
theorem d_M_draw_118 : decode b_M_draw 118 = .ok (.putfield 176, 3) := by decide +kernel
theorem d_M_draw_121 : decode b_M_draw 121 = .ok (.aload_n 0, 1) := by decide +kernel
theorem d_M_draw_122 : decode b_M_draw 122 = .ok (.iload_n 3, 1) := by decide +kernel
theorem d_M_draw_123 : decode b_M_draw 123 = .ok (.putfield 170, 3) := by decide +kernel
theorem d_M_draw_126 : decode b_M_draw 126 = .ok (.aload_n 0, 1) := by decide +kernel
theorem d_M_draw_127 : decode b_M_draw 127 = .ok (.iconst 0, 1) := by decide +kernel
theorem d_M_draw_128 : decode b_M_draw 128 = .ok (.putfield 182, 3) := by decide +kernel
theorem d_M_draw_131 : decode b_M_draw 131 = .ok (.aload_n 0, 1) := by decide +kernel
theorem d_M_draw_132 : decode b_M_draw 132 = .ok (.iconst 0, 1) := by decide +kernel
theorem d_M_draw_133 : decode b_M_draw 133 = .ok (.putfield 156, 3) := by decide +kernel
theorem d_M_draw_136 : decode b_M_draw 136 = .ok (.aload_n 0, 1) := by decide +kernel
theorem d_M_draw_137 : decode b_M_draw 137 = .ok (.iconst 0, 1) := by decide +kernel
theorem d_M_draw_138 : decode b_M_draw 138 = .ok (.putfield 159, 3) := by decide +kernel
theorem d_M_draw_141 : decode b_M_draw 141 = .ok (.aload_n 0, 1) := by decide +kernel
theorem d_M_draw_142 : decode b_M_draw 142 = .ok (.invokevirtual 219, 3) := by decide +kernel
theorem d_M_draw_145 : decode b_M_draw 145 = .ok (.aload_n 0, 1) := by decide +kernel
theorem d_M_draw_146 : decode b_M_draw 146 = .ok (.aload_n 0, 1) := by decide +kernel
theorem d_M_draw_147 : decode b_M_draw 147 = .ok (.getfield 159, 3) := by decide +kernel
theorem d_M_draw_150 : decode b_M_draw 150 = .ok (.ifCond .eq 7, 3) := by decide +kernel
theorem d_M_draw_153 : decode b_M_draw 153 = .ok (.iconst 3, 1) := by decide +kernel
theorem d_M_draw_154 : decode b_M_draw 154 = .ok (.goto 4, 3) := by decide +kernel
theorem d_M_draw_157 : decode b_M_draw 157 = .ok (.iconst 0, 1) := by decide +kernel
theorem d_M_draw_158 : decode b_M_draw 158 = .ok (.putfield 102, 3) := by decide +kernel
theorem d_M_draw_161 : decode b_M_draw 161 = .ok (.aload_n 0, 1) := by decide +kernel
theorem d_M_draw_162 : decode b_M_draw 162 = .ok (.getfield 159, 3) := by decide +kernel
theorem d_M_draw_165 : decode b_M_draw 165 = .ok (.ifCond .eq 5, 3) := by decide +kernel
theorem d_M_draw_168 : decode b_M_draw 168 = .ok (.iconst 0, 1) := by decide +kernel
theorem d_M_draw_169 : decode b_M_draw 169 = .ok (.ireturn, 1) := by decide +kernel
theorem d_M_draw_170 : decode b_M_draw 170 = .ok (.iconst 0, 1) := by decide +kernel
theorem d_M_draw_171 : decode b_M_draw 171 = .ok (.istore 4, 2) := by decide +kernel
theorem d_M_draw_173 : decode b_M_draw 173 = .ok (.iload 4, 2) := by decide +kernel
theorem d_M_draw_175 : decode b_M_draw 175 = .ok (.bipush 24, 2) := by decide +kernel
theorem d_M_draw_177 : decode b_M_draw 177 = .ok (.if_icmp .ge 51, 3) := by decide +kernel
theorem d_M_draw_180 : decode b_M_draw 180 = .ok (.aload_n 0, 1) := by decide +kernel
theorem d_M_draw_181 : decode b_M_draw 181 = .ok (.getfield 7, 3) := by decide +kernel
theorem d_M_draw_184 : decode b_M_draw 184 = .ok (.iload 4, 2) := by decide +kernel
theorem d_M_draw_186 : decode b_M_draw 186 = .ok (.aload_n 0, 1) := by decide +kernel
theorem d_M_draw_187 : decode b_M_draw 187 = .ok (.getfield 68, 3) := by decide +kernel
theorem d_M_draw_190 : decode b_M_draw 190 = .ok (.iload 4, 2) := by decide +kernel
theorem d_M_draw_192 : decode b_M_draw 192 = .ok (.iaload, 1) := by decide +kernel
theorem d_M_draw_193 : decode b_M_draw 193 = .ok (.iastore, 1) := by decide +kernel
theorem d_M_draw_194 : decode b_M_draw 194 = .ok (.aload_n 0, 1) := by decide +kernel
theorem d_M_draw_195 : decode b_M_draw 195 = .ok (.getfield 13, 3) := by decide +kernel
theorem d_M_draw_198 : decode b_M_draw 198 = .ok (.iload 4, 2) := by decide +kernel
theorem d_M_draw_200 : decode b_M_draw 200 = .ok (.aload_n 0, 1) := by decide +kernel
theorem d_M_draw_201 : decode b_M_draw 201 = .ok (.getfield 71, 3) := by decide +kernel
theorem d_M_draw_204 : decode b_M_draw 204 = .ok (.iload 4, 2) := by decide +kernel
theorem d_M_draw_206 : decode b_M_draw 206 = .ok (.iaload, 1) := by decide +kernel
theorem d_M_draw_207 : decode b_M_draw 207 = .ok (.iastore, 1) := by decide +kernel
theorem d_M_draw_208 : decode b_M_draw 208 = .ok (.aload_n 0, 1) := by decide +kernel
theorem d_M_draw_209 : decode b_M_draw 209 = .ok (.getfield 16, 3) := by decide +kernel
theorem d_M_draw_212 : decode b_M_draw 212 = .ok (.iload 4, 2) := by decide +kernel
theorem d_M_draw_214 : decode b_M_draw 214 = .ok (.aload_n 0, 1) := by decide +kernel
theorem d_M_draw_215 : decode b_M_draw 215 = .ok (.getfield 74, 3) := by decide +kernel
theorem d_M_draw_218 : decode b_M_draw 218 = .ok (.iload 4, 2) := by decide +kernel
theorem d_M_draw_220 : decode b_M_draw 220 = .ok (.iaload, 1) := by decide +kernel
theorem d_M_draw_221 : decode b_M_draw 221 = .ok (.iastore, 1) := by decide +kernel
theorem d_M_draw_222 : decode b_M_draw 222 = .ok (.iinc 4 1, 3) := by decide +kernel
theorem d_M_draw_225 : decode b_M_draw 225 = .ok (.goto (-52), 3) := by decide +kernel
theorem d_M_draw_228 : decode b_M_draw 228 = .ok (.aload_n 0, 1) := by decide +kernel
theorem d_M_draw_229 : decode b_M_draw 229 = .ok (.iconst 0, 1) := by decide +kernel
theorem d_M_draw_230 : decode b_M_draw 230 = .ok (.putfield 113, 3) := by decide +kernel
theorem d_M_draw_233 : decode b_M_draw 233 = .ok (.aload_n 0, 1) := by decide +kernel
theorem d_M_draw_234 : decode b_M_draw 234 = .ok (.getfield 62, 3) := by decide +kernel
theorem d_M_draw_237 : decode b_M_draw 237 = .ok (.iconst 4, 1) := by decide +kernel
theorem d_M_draw_238 : decode b_M_draw 238 = .ok (.iconst 0, 1) := by decide +kernel
theorem d_M_draw_239 : decode b_M_draw 239 = .ok (.iastore, 1) := by decide +kernel
theorem d_M_draw_240 : decode b_M_draw 240 = .ok (.aload_n 0, 1) := by decide +kernel
theorem d_M_draw_241 : decode b_M_draw 241 = .ok (.getfield 156, 3) := by decide +kernel
theorem d_M_draw_244 : decode b_M_draw 244 = .ok (.ireturn, 1) := by decide +kernel
abbrev b_M_change : ByteArray := prog_9_method_32_code
theorem d_M_change_0 : decode b_M_change 0 = .ok (.iconst 1, 1) := by decide +kernel
theorem d_M_change_1 : decode b_M_change 1 = .ok (.iload_n 1, 1) := by decide +kernel
theorem d_M_change_2 : decode b_M_change 2 = .ok (.ishl, 1) := by decide +kernel
theorem d_M_change_3 : decode b_M_change 3 = .ok (.istore 4, 2) := by decide +kernel
theorem d_M_change_5 : decode b_M_change 5 = .ok (.aload_n 0, 1) := by decide +kernel
theorem d_M_change_6 : decode b_M_change 6 = .ok (.getfield 7, 3) := by decide +kernel
theorem d_M_change_9 : decode b_M_change 9 = .ok (.iload_n 2, 1) := by decide +kernel
theorem d_M_change_10 : decode b_M_change 10 = .ok (.iload_n 3, 1) := by decide +kernel
theorem d_M_change_11 : decode b_M_change 11 = .ok (.iconst 1, 1) := by decide +kernel
theorem d_M_change_12 : decode b_M_change 12 = .ok (.if_icmp .ne 15, 3) := by decide +kernel
theorem d_M_change_15 : decode b_M_change 15 = .ok (.aload_n 0, 1) := by decide +kernel
theorem d_M_change_16 : decode b_M_change 16 = .ok (.getfield 7, 3) := by decide +kernel
theorem d_M_change_19 : decode b_M_change 19 = .ok (.iload_n 2, 1) := by decide +kernel
theorem d_M_change_20 : decode b_M_change 20 = .ok (.iaload, 1) := by decide +kernel
theorem d_M_change_21 : decode b_M_change 21 = .ok (.iload 4, 2) := by decide +kernel
theorem d_M_change_23 : decode b_M_change 23 = .ok (.ior, 1) := by decide +kernel
theorem d_M_change_24 : decode b_M_change 24 = .ok (.goto 14, 3) := by decide +kernel
theorem d_M_change_27 : decode b_M_change 27 = .ok (.aload_n 0, 1) := by decide +kernel
theorem d_M_change_28 : decode b_M_change 28 = .ok (.getfield 7, 3) := by decide +kernel
theorem d_M_change_31 : decode b_M_change 31 = .ok (.iload_n 2, 1) := by decide +kernel
theorem d_M_change_32 : decode b_M_change 32 = .ok (.iaload, 1) := by decide +kernel
theorem d_M_change_33 : decode b_M_change 33 = .ok (.iload 4, 2) := by decide +kernel
theorem d_M_change_35 : decode b_M_change 35 = .ok (.iconst (-1), 1) := by decide +kernel
theorem d_M_change_36 : decode b_M_change 36 = .ok (.ixor, 1) := by decide +kernel
theorem d_M_change_37 : decode b_M_change 37 = .ok (.iand, 1) := by decide +kernel
theorem d_M_change_38 : decode b_M_change 38 = .ok (.iastore, 1) := by decide +kernel
theorem d_M_change_39 : decode b_M_change 39 = .ok (.aload_n 0, 1) := by decide +kernel
theorem d_M_change_40 : decode b_M_change 40 = .ok (.getfield 13, 3) := by decide +kernel
theorem d_M_change_43 : decode b_M_change 43 = .ok (.iload_n 2, 1) := by decide +kernel
theorem d_M_change_44 : decode b_M_change 44 = .ok (.iload_n 3, 1) := by decide +kernel
theorem d_M_change_45 : decode b_M_change 45 = .ok (.iconst 2, 1) := by decide +kernel
theorem d_M_change_46 : decode b_M_change 46 = .ok (.if_icmp .ne 15, 3) := by decide +kernel
theorem d_M_change_49 : decode b_M_change 49 = .ok (.aload_n 0, 1) := by decide +kernel
theorem d_M_change_50 : decode b_M_change 50 = .ok (.getfield 13, 3) := by decide +kernel
theorem d_M_change_53 : decode b_M_change 53 = .ok (.iload_n 2, 1) := by decide +kernel
theorem d_M_change_54 : decode b_M_change 54 = .ok (.iaload, 1) := by decide +kernel
theorem d_M_change_55 : decode b_M_change 55 = .ok (.iload 4, 2) := by decide +kernel
theorem d_M_change_57 : decode b_M_change 57 = .ok (.ior, 1) := by decide +kernel
theorem d_M_change_58 : decode b_M_change 58 = .ok (.goto 14, 3) := by decide +kernel
theorem d_M_change_61 : decode b_M_change 61 = .ok (.aload_n 0, 1) := by decide +kernel
theorem d_M_change_62 : decode b_M_change 62 = .ok (.getfield 13, 3) := by decide +kernel
theorem d_M_change_65 : decode b_M_change 65 = .ok (.iload_n 2, 1) := by decide +kernel
theorem d_M_change_66 : decode b_M_change 66 = .ok (.iaload, 1) := by decide +kernel
theorem d_M_change_67 : decode b_M_change 67 = .ok (.iload 4, 2) := by decide +kernel
theorem d_M_change_69 : decode b_M_change 69 = .ok (.iconst (-1), 1) := by decide +kernel
theorem d_M_change_70 : decode b_M_change 70 = .ok (.ixor, 1) := by decide +kernel
theorem d_M_change_71 : decode b_M_change 71 = .ok (.iand, 1) := by decide +kernel
theorem d_M_change_72 : decode b_M_change 72 = .ok (.iastore, 1) := by decide +kernel
theorem d_M_change_73 : decode b_M_change 73 = .ok (.aload_n 0, 1) := by decide +kernel
theorem d_M_change_74 : decode b_M_change 74 = .ok (.getfield 16, 3) := by decide +kernel
theorem d_M_change_77 : decode b_M_change 77 = .ok (.iload_n 2, 1) := by decide +kernel
theorem d_M_change_78 : decode b_M_change 78 = .ok (.iload_n 3, 1) := by decide +kernel
theorem d_M_change_79 : decode b_M_change 79 = .ok (.iconst 3, 1) := by decide +kernel
theorem d_M_change_80 : decode b_M_change 80 = .ok (.if_icmp .ne 15, 3) := by decide +kernel
theorem d_M_change_83 : decode b_M_change 83 = .ok (.aload_n 0, 1) := by decide +kernel
theorem d_M_change_84 : decode b_M_change 84 = .ok (.getfield 16, 3) := by decide +kernel
theorem d_M_change_87 : decode b_M_change 87 = .ok (.iload_n 2, 1) := by decide +kernel
theorem d_M_change_88 : decode b_M_change 88 = .ok (.iaload, 1) := by decide +kernel
theorem d_M_change_89 : decode b_M_change 89 = .ok (.iload 4, 2) := by decide +kernel
theorem d_M_change_91 : decode b_M_change 91 = .ok (.ior, 1) := by decide +kernel
theorem d_M_change_92 : decode b_M_change 92 = .ok (.goto 14, 3) := by decide +kernel
theorem d_M_change_95 : decode b_M_change 95 = .ok (.aload_n 0, 1) := by decide +kernel
theorem d_M_change_96 : decode b_M_change 96 = .ok (.getfield 16, 3) := by decide +kernel
theorem d_M_change_99 : decode b_M_change 99 = .ok (.iload_n 2, 1) := by decide +kernel
theorem d_M_change_100 : decode b_M_change 100 = .ok (.iaload, 1) := by decide +kernel
theorem d_M_change_101 : decode b_M_change 101 = .ok (.iload 4, 2) := by decide +kernel
theorem d_M_change_103 : decode b_M_change 103 = .ok (.iconst (-1), 1) := by decide +kernel
theorem d_M_change_104 : decode b_M_change 104 = .ok (.ixor, 1) := by decide +kernel
theorem d_M_change_105 : decode b_M_change 105 = .ok (.iand, 1) := by decide +kernel
theorem d_M_change_106 : decode b_M_change 106 = .ok (.iastore, 1) := by decide +kernel
theorem d_M_change_107 : decode b_M_change 107 = .ok (.return_, 1) := by decide +kernel
abbrev b_M_set : ByteArray := prog_9_method_33_code
theorem d_M_set_0 : decode b_M_set 0 = .ok (.aload_n 0, 1) := by decide +kernel
theorem d_M_set_1 : decode b_M_set 1 = .ok (.iconst 0, 1) := by decide +kernel
theorem d_M_set_2 : decode b_M_set 2 = .ok (.putfield 102, 3) := by decide +kernel
theorem d_M_set_5 : decode b_M_set 5 = .ok (.iload_n 1, 1) := by decide +kernel
theorem d_M_set_6 : decode b_M_set 6 = .ok (.iload_n 2, 1) := by decide +kernel
theorem d_M_set_7 : decode b_M_set 7 = .ok (.invokestatic 163, 3) := by decide +kernel
theorem d_M_set_10 : decode b_M_set 10 = .ok (.ifCond .eq 12, 3) := by decide +kernel
theorem d_M_set_13 : decode b_M_set 13 = .ok (.iload_n 3, 1) := by decide +kernel
theorem d_M_set_14 : decode b_M_set 14 = .ok (.ifCond .lt 8, 3) := by decide +kernel
theorem d_M_set_17 : decode b_M_set 17 = .ok (.iload_n 3, 1) := by decide +kernel
theorem d_M_set_18 : decode b_M_set 18 = .ok (.iconst 3, 1) := by decide +kernel
theorem d_M_set_19 : decode b_M_set 19 = .ok (.if_icmp .le 5, 3) := by decide +kernel
theorem d_M_set_22 : decode b_M_set 22 = .ok (.iconst 0, 1) := by decide +kernel
theorem d_M_set_23 : decode b_M_set 23 = .ok (.ireturn, 1) := by decide +kernel
theorem d_M_set_24 : decode b_M_set 24 = .ok (.aload_n 0, 1) := by decide +kernel
theorem d_M_set_25 : decode b_M_set 25 = .ok (.iload_n 1, 1) := by decide +kernel
theorem d_M_set_26 : decode b_M_set 26 = .ok (.iload_n 2, 1) := by decide +kernel
theorem d_M_set_27 : decode b_M_set 27 = .ok (.iload_n 3, 1) := by decide +kernel
theorem d_M_set_28 : decode b_M_set 28 = .ok (.invokevirtual 222, 3) := by decide +kernel
theorem d_M_set_31 : decode b_M_set 31 = .ok (.aload_n 0, 1) := by decide +kernel
theorem d_M_set_32 : decode b_M_set 32 = .ok (.iconst 0, 1) := by decide +kernel
theorem d_M_set_33 : decode b_M_set 33 = .ok (.putfield 113, 3) := by decide +kernel
theorem d_M_set_36 : decode b_M_set 36 = .ok (.iconst 1, 1) := by decide +kernel
theorem d_M_set_37 : decode b_M_set 37 = .ok (.ireturn, 1) := by decide +kernel
abbrev b_M_cell : ByteArray := prog_9_method_34_code
theorem d_M_cell_0 : decode b_M_cell 0 = .ok (.aload_n 0, 1) := by decide +kernel
theorem d_M_cell_1 : decode b_M_cell 1 = .ok (.iconst 0, 1) := by decide +kernel
theorem d_M_cell_2 : decode b_M_cell 2 = .ok (.putfield 102, 3) := by decide +kernel
theorem d_M_cell_5 : decode b_M_cell 5 = .ok (.iload_n 1, 1) := by decide +kernel
theorem d_M_cell_6 : decode b_M_cell 6 = .ok (.iload_n 2, 1) := by decide +kernel
theorem d_M_cell_7 : decode b_M_cell 7 = .ok (.invokestatic 163, 3) := by decide +kernel
theorem d_M_cell_10 : decode b_M_cell 10 = .ok (.ifCond .eq 42, 3) := by decide +kernel
theorem d_M_cell_13 : decode b_M_cell 13 = .ok (.aload_n 0, 1) := by decide +kernel
theorem d_M_cell_14 : decode b_M_cell 14 = .ok (.getfield 7, 3) := by decide +kernel
theorem d_M_cell_17 : decode b_M_cell 17 = .ok (.iload_n 2, 1) := by decide +kernel
theorem d_M_cell_18 : decode b_M_cell 18 = .ok (.iaload, 1) := by decide +kernel
theorem d_M_cell_19 : decode b_M_cell 19 = .ok (.iload_n 1, 1) := by decide +kernel
theorem d_M_cell_20 : decode b_M_cell 20 = .ok (.invokestatic 131, 3) := by decide +kernel
theorem d_M_cell_23 : decode b_M_cell 23 = .ok (.iconst 2, 1) := by decide +kernel
theorem d_M_cell_24 : decode b_M_cell 24 = .ok (.aload_n 0, 1) := by decide +kernel
theorem d_M_cell_25 : decode b_M_cell 25 = .ok (.getfield 13, 3) := by decide +kernel
theorem d_M_cell_28 : decode b_M_cell 28 = .ok (.iload_n 2, 1) := by decide +kernel
theorem d_M_cell_29 : decode b_M_cell 29 = .ok (.iaload, 1) := by decide +kernel
theorem d_M_cell_30 : decode b_M_cell 30 = .ok (.iload_n 1, 1) := by decide +kernel
theorem d_M_cell_31 : decode b_M_cell 31 = .ok (.invokestatic 131, 3) := by decide +kernel
theorem d_M_cell_34 : decode b_M_cell 34 = .ok (.imul, 1) := by decide +kernel
theorem d_M_cell_35 : decode b_M_cell 35 = .ok (.iadd, 1) := by decide +kernel
theorem d_M_cell_36 : decode b_M_cell 36 = .ok (.iconst 3, 1) := by decide +kernel
theorem d_M_cell_37 : decode b_M_cell 37 = .ok (.aload_n 0, 1) := by decide +kernel
theorem d_M_cell_38 : decode b_M_cell 38 = .ok (.getfield 16, 3) := by decide +kernel
theorem d_M_cell_41 : decode b_M_cell 41 = .ok (.iload_n 2, 1) := by decide +kernel
theorem d_M_cell_42 : decode b_M_cell 42 = .ok (.iaload, 1) := by decide +kernel
theorem d_M_cell_43 : decode b_M_cell 43 = .ok (.iload_n 1, 1) := by decide +kernel
theorem d_M_cell_44 : decode b_M_cell 44 = .ok (.invokestatic 131, 3) := by decide +kernel
theorem d_M_cell_47 : decode b_M_cell 47 = .ok (.imul, 1) := by decide +kernel
theorem d_M_cell_48 : decode b_M_cell 48 = .ok (.iadd, 1) := by decide +kernel
theorem d_M_cell_49 : decode b_M_cell 49 = .ok (.goto 4, 3) := by decide +kernel
theorem d_M_cell_52 : decode b_M_cell 52 = .ok (.iconst (-1), 1) := by decide +kernel
theorem d_M_cell_53 : decode b_M_cell 53 = .ok (.ireturn, 1) := by decide +kernel
abbrev b_M_copy : ByteArray := prog_9_method_35_code
theorem d_M_copy_0 : decode b_M_copy 0 = .ok (.aload_n 0, 1) := by decide +kernel
theorem d_M_copy_1 : decode b_M_copy 1 = .ok (.iconst 0, 1) := by decide +kernel
theorem d_M_copy_2 : decode b_M_copy 2 = .ok (.putfield 102, 3) := by decide +kernel
theorem d_M_copy_5 : decode b_M_copy 5 = .ok (.iload_n 1, 1) := by decide +kernel
theorem d_M_copy_6 : decode b_M_copy 6 = .ok (.iload_n 2, 1) := by decide +kernel
theorem d_M_copy_7 : decode b_M_copy 7 = .ok (.invokestatic 163, 3) := by decide +kernel
theorem d_M_copy_10 : decode b_M_copy 10 = .ok (.ifCond .eq 54, 3) := by decide +kernel
theorem d_M_copy_13 : decode b_M_copy 13 = .ok (.iload_n 3, 1) := by decide +kernel
theorem d_M_copy_14 : decode b_M_copy 14 = .ok (.ifCond .le 50, 3) := by decide +kernel
theorem d_M_copy_17 : decode b_M_copy 17 = .ok (.iload 4, 2) := by decide +kernel
theorem d_M_copy_19 : decode b_M_copy 19 = .ok (.ifCond .le 45, 3) := by decide +kernel
theorem d_M_copy_22 : decode b_M_copy 22 = .ok (.iload_n 3, 1) := by decide +kernel
theorem d_M_copy_23 : decode b_M_copy 23 = .ok (.bipush 32, 2) := by decide +kernel
theorem d_M_copy_25 : decode b_M_copy 25 = .ok (.iload_n 1, 1) := by decide +kernel
theorem d_M_copy_26 : decode b_M_copy 26 = .ok (.isub, 1) := by decide +kernel
theorem d_M_copy_27 : decode b_M_copy 27 = .ok (.if_icmp .gt 37, 3) := by decide +kernel
theorem d_M_copy_30 : decode b_M_copy 30 = .ok (.iload 4, 2) := by decide +kernel
theorem d_M_copy_32 : decode b_M_copy 32 = .ok (.bipush 24, 2) := by decide +kernel
theorem d_M_copy_34 : decode b_M_copy 34 = .ok (.iload_n 2, 1) := by decide +kernel
theorem d_M_copy_35 : decode b_M_copy 35 = .ok (.isub, 1) := by decide +kernel
theorem d_M_copy_36 : decode b_M_copy 36 = .ok (.if_icmp .gt 28, 3) := by decide +kernel
theorem d_M_copy_39 : decode b_M_copy 39 = .ok (.iload 7, 2) := by decide +kernel
theorem d_M_copy_41 : decode b_M_copy 41 = .ok (.ifCond .lt 23, 3) := by decide +kernel
theorem d_M_copy_44 : decode b_M_copy 44 = .ok (.iload 7, 2) := by decide +kernel
theorem d_M_copy_46 : decode b_M_copy 46 = .ok (.iconst 4, 1) := by decide +kernel
theorem d_M_copy_47 : decode b_M_copy 47 = .ok (.if_icmp .ge 17, 3) := by decide +kernel
theorem d_M_copy_50 : decode b_M_copy 50 = .ok (.iload 5, 2) := by decide +kernel
theorem d_M_copy_52 : decode b_M_copy 52 = .ok (.iload 6, 2) := by decide +kernel
theorem d_M_copy_54 : decode b_M_copy 54 = .ok (.invokestatic 163, 3) := by decide +kernel
theorem d_M_copy_57 : decode b_M_copy 57 = .ok (.ifCond .eq 7, 3) := by decide +kernel
theorem d_M_copy_60 : decode b_M_copy 60 = .ok (.iconst 1, 1) := by decide +kernel
theorem d_M_copy_61 : decode b_M_copy 61 = .ok (.goto 4, 3) := by decide +kernel
theorem d_M_copy_64 : decode b_M_copy 64 = .ok (.iconst 0, 1) := by decide +kernel
theorem d_M_copy_65 : decode b_M_copy 65 = .ok (.istore 8, 2) := by decide +kernel
theorem d_M_copy_67 : decode b_M_copy 67 = .ok (.iload 7, 2) := by decide +kernel
theorem d_M_copy_69 : decode b_M_copy 69 = .ok (.iconst 2, 1) := by decide +kernel
theorem d_M_copy_70 : decode b_M_copy 70 = .ok (.irem, 1) := by decide +kernel
theorem d_M_copy_71 : decode b_M_copy 71 = .ok (.ifCond .ne 7, 3) := by decide +kernel
theorem d_M_copy_74 : decode b_M_copy 74 = .ok (.iload_n 3, 1) := by decide +kernel
theorem d_M_copy_75 : decode b_M_copy 75 = .ok (.goto 5, 3) := by decide +kernel
theorem d_M_copy_78 : decode b_M_copy 78 = .ok (.iload 4, 2) := by decide +kernel
theorem d_M_copy_80 : decode b_M_copy 80 = .ok (.istore 9, 2) := by decide +kernel
theorem d_M_copy_82 : decode b_M_copy 82 = .ok (.iload 7, 2) := by decide +kernel
theorem d_M_copy_84 : decode b_M_copy 84 = .ok (.iconst 2, 1) := by decide +kernel
theorem d_M_copy_85 : decode b_M_copy 85 = .ok (.irem, 1) := by decide +kernel
theorem d_M_copy_86 : decode b_M_copy 86 = .ok (.ifCond .ne 8, 3) := by decide +kernel
theorem d_M_copy_89 : decode b_M_copy 89 = .ok (.iload 4, 2) := by decide +kernel
theorem d_M_copy_91 : decode b_M_copy 91 = .ok (.goto 4, 3) := by decide +kernel
theorem d_M_copy_94 : decode b_M_copy 94 = .ok (.iload_n 3, 1) := by decide +kernel
theorem d_M_copy_95 : decode b_M_copy 95 = .ok (.istore 10, 2) := by decide +kernel
theorem d_M_copy_97 : decode b_M_copy 97 = .ok (.iload 8, 2) := by decide +kernel
theorem d_M_copy_99 : decode b_M_copy 99 = .ok (.ifCond .eq 23, 3) := by decide +kernel
theorem d_M_copy_102 : decode b_M_copy 102 = .ok (.iload 9, 2) := by decide +kernel
theorem d_M_copy_104 : decode b_M_copy 104 = .ok (.bipush 32, 2) := by decide +kernel
theorem d_M_copy_106 : decode b_M_copy 106 = .ok (.iload 5, 2) := by decide +kernel
theorem d_M_copy_108 : decode b_M_copy 108 = .ok (.isub, 1) := by decide +kernel
theorem d_M_copy_109 : decode b_M_copy 109 = .ok (.if_icmp .gt 13, 3) := by decide +kernel
theorem d_M_copy_112 : decode b_M_copy 112 = .ok (.iload 10, 2) := by decide +kernel
theorem d_M_copy_114 : decode b_M_copy 114 = .ok (.bipush 24, 2) := by decide +kernel
theorem d_M_copy_116 : decode b_M_copy 116 = .ok (.iload 6, 2) := by decide +kernel
theorem d_M_copy_118 : decode b_M_copy 118 = .ok (.isub, 1) := by decide +kernel
theorem d_M_copy_119 : decode b_M_copy 119 = .ok (.if_icmp .le 5, 3) := by decide +kernel
theorem d_M_copy_122 : decode b_M_copy 122 = .ok (.iconst 0, 1) := by decide +kernel
theorem d_M_copy_123 : decode b_M_copy 123 = .ok (.ireturn, 1) := by decide +kernel
theorem d_M_copy_124 : decode b_M_copy 124 = .ok (.iconst 0, 1) := by decide +kernel
theorem d_M_copy_125 : decode b_M_copy 125 = .ok (.istore 11, 2) := by decide +kernel
theorem d_M_copy_127 : decode b_M_copy 127 = .ok (.iload 11, 2) := by decide +kernel
theorem d_M_copy_129 : decode b_M_copy 129 = .ok (.bipush 24, 2) := by decide +kernel
theorem d_M_copy_131 : decode b_M_copy 131 = .ok (.if_icmp .ge 51, 3) := by decide +kernel
theorem d_M_copy_134 : decode b_M_copy 134 = .ok (.aload_n 0, 1) := by decide +kernel
theorem d_M_copy_135 : decode b_M_copy 135 = .ok (.getfield 68, 3) := by decide +kernel
theorem d_M_copy_138 : decode b_M_copy 138 = .ok (.iload 11, 2) := by decide +kernel
theorem d_M_copy_140 : decode b_M_copy 140 = .ok (.aload_n 0, 1) := by decide +kernel
theorem d_M_copy_141 : decode b_M_copy 141 = .ok (.getfield 7, 3) := by decide +kernel
theorem d_M_copy_144 : decode b_M_copy 144 = .ok (.iload 11, 2) := by decide +kernel
theorem d_M_copy_146 : decode b_M_copy 146 = .ok (.iaload, 1) := by decide +kernel
theorem d_M_copy_147 : decode b_M_copy 147 = .ok (.iastore, 1) := by decide +kernel
theorem d_M_copy_148 : decode b_M_copy 148 = .ok (.aload_n 0, 1) := by decide +kernel
theorem d_M_copy_149 : decode b_M_copy 149 = .ok (.getfield 71, 3) := by decide +kernel
theorem d_M_copy_152 : decode b_M_copy 152 = .ok (.iload 11, 2) := by decide +kernel
theorem d_M_copy_154 : decode b_M_copy 154 = .ok (.aload_n 0, 1) := by decide +kernel
theorem d_M_copy_155 : decode b_M_copy 155 = .ok (.getfield 13, 3) := by decide +kernel
theorem d_M_copy_158 : decode b_M_copy 158 = .ok (.iload 11, 2) := by decide +kernel
theorem d_M_copy_160 : decode b_M_copy 160 = .ok (.iaload, 1) := by decide +kernel
theorem d_M_copy_161 : decode b_M_copy 161 = .ok (.iastore, 1) := by decide +kernel
theorem d_M_copy_162 : decode b_M_copy 162 = .ok (.aload_n 0, 1) := by decide +kernel
theorem d_M_copy_163 : decode b_M_copy 163 = .ok (.getfield 74, 3) := by decide +kernel
theorem d_M_copy_166 : decode b_M_copy 166 = .ok (.iload 11, 2) := by decide +kernel
theorem d_M_copy_168 : decode b_M_copy 168 = .ok (.aload_n 0, 1) := by decide +kernel
theorem d_M_copy_169 : decode b_M_copy 169 = .ok (.getfield 16, 3) := by decide +kernel
theorem d_M_copy_172 : decode b_M_copy 172 = .ok (.iload 11, 2) := by decide +kernel
theorem d_M_copy_174 : decode b_M_copy 174 = .ok (.iaload, 1) := by decide +kernel
theorem d_M_copy_175 : decode b_M_copy 175 = .ok (.iastore, 1) := by decide +kernel
theorem d_M_copy_176 : decode b_M_copy 176 = .ok (.iinc 11 1, 3) := by decide +kernel
theorem d_M_copy_179 : decode b_M_copy 179 = .ok (.goto (-52), 3) := by decide +kernel
theorem d_M_copy_182 : decode b_M_copy 182 = .ok (.iconst 0, 1) := by decide +kernel
theorem d_M_copy_183 : decode b_M_copy 183 = .ok (.istore 11, 2) := by decide +kernel
theorem d_M_copy_185 : decode b_M_copy 185 = .ok (.iload 11, 2) := by decide +kernel
theorem d_M_copy_187 : decode b_M_copy 187 = .ok (.iload 10, 2) := by decide +kernel
theorem d_M_copy_189 : decode b_M_copy 189 = .ok (.if_icmp .ge 192, 3) := by decide +kernel
theorem d_M_copy_192 : decode b_M_copy 192 = .ok (.iconst 0, 1) := by decide +kernel
theorem d_M_copy_193 : decode b_M_copy 193 = .ok (.istore 12, 2) := by decide +kernel
theorem d_M_copy_195 : decode b_M_copy 195 = .ok (.iload 12, 2) := by decide +kernel
theorem d_M_copy_197 : decode b_M_copy 197 = .ok (.iload 9, 2) := by decide +kernel
theorem d_M_copy_199 : decode b_M_copy 199 = .ok (.if_icmp .ge 176, 3) := by decide +kernel
theorem d_M_copy_202 : decode b_M_copy 202 = .ok (.iload 7, 2) := by decide +kernel
theorem d_M_copy_204 : decode b_M_copy 204 = .ok (.ifCond .ne 8, 3) := by decide +kernel
theorem d_M_copy_207 : decode b_M_copy 207 = .ok (.iload 12, 2) := by decide +kernel
theorem d_M_copy_209 : decode b_M_copy 209 = .ok (.goto 35, 3) := by decide +kernel
theorem d_M_copy_212 : decode b_M_copy 212 = .ok (.iload 7, 2) := by decide +kernel
theorem d_M_copy_214 : decode b_M_copy 214 = .ok (.iconst 1, 1) := by decide +kernel
theorem d_M_copy_215 : decode b_M_copy 215 = .ok (.if_icmp .ne 8, 3) := by decide +kernel
theorem d_M_copy_218 : decode b_M_copy 218 = .ok (.iload 11, 2) := by decide +kernel
theorem d_M_copy_220 : decode b_M_copy 220 = .ok (.goto 24, 3) := by decide +kernel
theorem d_M_copy_223 : decode b_M_copy 223 = .ok (.iload 7, 2) := by decide +kernel
theorem d_M_copy_225 : decode b_M_copy 225 = .ok (.iconst 2, 1) := by decide +kernel
theorem d_M_copy_226 : decode b_M_copy 226 = .ok (.if_icmp .ne 12, 3) := by decide +kernel
theorem d_M_copy_229 : decode b_M_copy 229 = .ok (.iload_n 3, 1) := by decide +kernel
theorem d_M_copy_230 : decode b_M_copy 230 = .ok (.iconst 1, 1) := by decide +kernel
theorem d_M_copy_231 : decode b_M_copy 231 = .ok (.isub, 1) := by decide +kernel
theorem d_M_copy_232 : decode b_M_copy 232 = .ok (.iload 12, 2) := by decide +kernel
theorem d_M_copy_234 : decode b_M_copy 234 = .ok (.isub, 1) := by decide +kernel
theorem d_M_copy_235 : decode b_M_copy 235 = .ok (.goto 9, 3) := by decide +kernel
theorem d_M_copy_238 : decode b_M_copy 238 = .ok (.iload_n 3, 1) := by decide +kernel
theorem d_M_copy_239 : decode b_M_copy 239 = .ok (.iconst 1, 1) := by decide +kernel
theorem d_M_copy_240 : decode b_M_copy 240 = .ok (.isub, 1) := by decide +kernel
theorem d_M_copy_241 : decode b_M_copy 241 = .ok (.iload 11, 2) := by decide +kernel
theorem d_M_copy_243 : decode b_M_copy 243 = .ok (.isub, 1) := by decide +kernel
theorem d_M_copy_244 : decode b_M_copy 244 = .ok (.istore 13, 2) := by decide +kernel
theorem d_M_copy_246 : decode b_M_copy 246 = .ok (.iload 7, 2) := by decide +kernel
theorem d_M_copy_248 : decode b_M_copy 248 = .ok (.ifCond .ne 8, 3) := by decide +kernel
theorem d_M_copy_251 : decode b_M_copy 251 = .ok (.iload 11, 2) := by decide +kernel
theorem d_M_copy_253 : decode b_M_copy 253 = .ok (.goto 37, 3) := by decide +kernel
theorem d_M_copy_256 : decode b_M_copy 256 = .ok (.iload 7, 2) := by decide +kernel
theorem d_M_copy_258 : decode b_M_copy 258 = .ok (.iconst 1, 1) := by decide +kernel
theorem d_M_copy_259 : decode b_M_copy 259 = .ok (.if_icmp .ne 13, 3) := by decide +kernel
theorem d_M_copy_262 : decode b_M_copy 262 = .ok (.iload 4, 2) := by decide +kernel
theorem d_M_copy_264 : decode b_M_copy 264 = .ok (.iconst 1, 1) := by decide +kernel
theorem d_M_copy_265 : decode b_M_copy 265 = .ok (.isub, 1) := by decide +kernel
theorem d_M_copy_266 : decode b_M_copy 266 = .ok (.iload 12, 2) := by decide +kernel
theorem d_M_copy_268 : decode b_M_copy 268 = .ok (.isub, 1) := by decide +kernel
theorem d_M_copy_269 : decode b_M_copy 269 = .ok (.goto 21, 3) := by decide +kernel
theorem d_M_copy_272 : decode b_M_copy 272 = .ok (.iload 7, 2) := by decide +kernel
theorem d_M_copy_274 : decode b_M_copy 274 = .ok (.iconst 2, 1) := by decide +kernel
theorem d_M_copy_275 : decode b_M_copy 275 = .ok (.if_icmp .ne 13, 3) := by decide +kernel
theorem d_M_copy_278 : decode b_M_copy 278 = .ok (.iload 4, 2) := by decide +kernel
theorem d_M_copy_280 : decode b_M_copy 280 = .ok (.iconst 1, 1) := by decide +kernel
theorem d_M_copy_281 : decode b_M_copy 281 = .ok (.isub, 1) := by decide +kernel
theorem d_M_copy_282 : decode b_M_copy 282 = .ok (.iload 11, 2) := by decide +kernel
theorem d_M_copy_284 : decode b_M_copy 284 = .ok (.isub, 1) := by decide +kernel
theorem d_M_copy_285 : decode b_M_copy 285 = .ok (.goto 5, 3) := by decide +kernel
theorem d_M_copy_288 : decode b_M_copy 288 = .ok (.iload 12, 2) := by decide +kernel
theorem d_M_copy_290 : decode b_M_copy 290 = .ok (.istore 14, 2) := by decide +kernel
theorem d_M_copy_292 : decode b_M_copy 292 = .ok (.iload_n 1, 1) := by decide +kernel
theorem d_M_copy_293 : decode b_M_copy 293 = .ok (.iload 13, 2) := by decide +kernel
theorem d_M_copy_295 : decode b_M_copy 295 = .ok (.iadd, 1) := by decide +kernel
theorem d_M_copy_296 : decode b_M_copy 296 = .ok (.istore 15, 2) := by decide +kernel
theorem d_M_copy_298 : decode b_M_copy 298 = .ok (.iload_n 2, 1) := by decide +kernel
theorem d_M_copy_299 : decode b_M_copy 299 = .ok (.iload 14, 2) := by decide +kernel
theorem d_M_copy_301 : decode b_M_copy 301 = .ok (.iadd, 1) := by decide +kernel
theorem d_M_copy_302 : decode b_M_copy 302 = .ok (.istore 16, 2) := by decide +kernel
theorem d_M_copy_304 : decode b_M_copy 304 = .ok (.aload_n 0, 1) := by decide +kernel
theorem d_M_copy_305 : decode b_M_copy 305 = .ok (.getfield 68, 3) := by decide +kernel
theorem d_M_copy_308 : decode b_M_copy 308 = .ok (.iload 16, 2) := by decide +kernel
theorem d_M_copy_310 : decode b_M_copy 310 = .ok (.iaload, 1) := by decide +kernel
theorem d_M_copy_311 : decode b_M_copy 311 = .ok (.iload 15, 2) := by decide +kernel
theorem d_M_copy_313 : decode b_M_copy 313 = .ok (.invokestatic 131, 3) := by decide +kernel
theorem d_M_copy_316 : decode b_M_copy 316 = .ok (.iconst 2, 1) := by decide +kernel
theorem d_M_copy_317 : decode b_M_copy 317 = .ok (.aload_n 0, 1) := by decide +kernel
theorem d_M_copy_318 : decode b_M_copy 318 = .ok (.getfield 71, 3) := by decide +kernel
theorem d_M_copy_321 : decode b_M_copy 321 = .ok (.iload 16, 2) := by decide +kernel
theorem d_M_copy_323 : decode b_M_copy 323 = .ok (.iaload, 1) := by decide +kernel
theorem d_M_copy_324 : decode b_M_copy 324 = .ok (.iload 15, 2) := by decide +kernel
theorem d_M_copy_326 : decode b_M_copy 326 = .ok (.invokestatic 131, 3) := by decide +kernel
theorem d_M_copy_329 : decode b_M_copy 329 = .ok (.imul, 1) := by decide +kernel
theorem d_M_copy_330 : decode b_M_copy 330 = .ok (.iadd, 1) := by decide +kernel
theorem d_M_copy_331 : decode b_M_copy 331 = .ok (.iconst 3, 1) := by decide +kernel
theorem d_M_copy_332 : decode b_M_copy 332 = .ok (.aload_n 0, 1) := by decide +kernel
theorem d_M_copy_333 : decode b_M_copy 333 = .ok (.getfield 74, 3) := by decide +kernel
theorem d_M_copy_336 : decode b_M_copy 336 = .ok (.iload 16, 2) := by decide +kernel
theorem d_M_copy_338 : decode b_M_copy 338 = .ok (.iaload, 1) := by decide +kernel
theorem d_M_copy_339 : decode b_M_copy 339 = .ok (.iload 15, 2) := by decide +kernel
theorem d_M_copy_341 : decode b_M_copy 341 = .ok (.invokestatic 131, 3) := by decide +kernel
theorem d_M_copy_344 : decode b_M_copy 344 = .ok (.imul, 1) := by decide +kernel
theorem d_M_copy_345 : decode b_M_copy 345 = .ok (.iadd, 1) := by decide +kernel
theorem d_M_copy_346 : decode b_M_copy 346 = .ok (.istore 17, 2) := by decide +kernel
theorem d_M_copy_348 : decode b_M_copy 348 = .ok (.iload 17, 2) := by decide +kernel
theorem d_M_copy_350 : decode b_M_copy 350 = .ok (.ifCond .le 19, 3) := by decide +kernel
theorem d_M_copy_353 : decode b_M_copy 353 = .ok (.aload_n 0, 1) := by decide +kernel
theorem d_M_copy_354 : decode b_M_copy 354 = .ok (.iload 5, 2) := by decide +kernel
theorem d_M_copy_356 : decode b_M_copy 356 = .ok (.iload 12, 2) := by decide +kernel
theorem d_M_copy_358 : decode b_M_copy 358 = .ok (.iadd, 1) := by decide +kernel
theorem d_M_copy_359 : decode b_M_copy 359 = .ok (.iload 6, 2) := by decide +kernel
theorem d_M_copy_361 : decode b_M_copy 361 = .ok (.iload 11, 2) := by decide +kernel
theorem d_M_copy_363 : decode b_M_copy 363 = .ok (.iadd, 1) := by decide +kernel
theorem d_M_copy_364 : decode b_M_copy 364 = .ok (.iload 17, 2) := by decide +kernel
theorem d_M_copy_366 : decode b_M_copy 366 = .ok (.invokevirtual 222, 3) := by decide +kernel
theorem d_M_copy_369 : decode b_M_copy 369 = .ok (.iinc 12 1, 3) := by decide +kernel
theorem d_M_copy_372 : decode b_M_copy 372 = .ok (.goto (-177), 3) := by decide +kernel
theorem d_M_copy_375 : decode b_M_copy 375 = .ok (.iinc 11 1, 3) := by decide +kernel
theorem d_M_copy_378 : decode b_M_copy 378 = .ok (.goto (-193), 3) := by decide +kernel
theorem d_M_copy_381 : decode b_M_copy 381 = .ok (.aload_n 0, 1) := by decide +kernel
theorem d_M_copy_382 : decode b_M_copy 382 = .ok (.iconst 0, 1) := by decide +kernel
theorem d_M_copy_383 : decode b_M_copy 383 = .ok (.putfield 113, 3) := by decide +kernel
theorem d_M_copy_386 : decode b_M_copy 386 = .ok (.iconst 1, 1) := by decide +kernel
theorem d_M_copy_387 : decode b_M_copy 387 = .ok (.ireturn, 1) := by decide +kernel
abbrev b_M_source : ByteArray := prog_9_method_36_code
theorem d_M_source_0 : decode b_M_source 0 = .ok (.aload_n 0, 1) := by decide +kernel
theorem d_M_source_1 : decode b_M_source 1 = .ok (.iconst 0, 1) := by decide +kernel
theorem d_M_source_2 : decode b_M_source 2 = .ok (.putfield 102, 3) := by decide +kernel
theorem d_M_source_5 : decode b_M_source 5 = .ok (.iload_n 1, 1) := by decide +kernel
theorem d_M_source_6 : decode b_M_source 6 = .ok (.iload_n 2, 1) := by decide +kernel
theorem d_M_source_7 : decode b_M_source 7 = .ok (.invokestatic 163, 3) := by decide +kernel
theorem d_M_source_10 : decode b_M_source 10 = .ok (.ifCond .eq 24, 3) := by decide +kernel
theorem d_M_source_13 : decode b_M_source 13 = .ok (.iload 5, 2) := by decide +kernel
theorem d_M_source_15 : decode b_M_source 15 = .ok (.iconst 1, 1) := by decide +kernel
theorem d_M_source_16 : decode b_M_source 16 = .ok (.if_icmp .lt 18, 3) := by decide +kernel
theorem d_M_source_19 : decode b_M_source 19 = .ok (.iload 5, 2) := by decide +kernel
theorem d_M_source_21 : decode b_M_source 21 = .ok (.bipush 64, 2) := by decide +kernel
theorem d_M_source_23 : decode b_M_source 23 = .ok (.if_icmp .gt 11, 3) := by decide +kernel
theorem d_M_source_26 : decode b_M_source 26 = .ok (.aload_n 0, 1) := by decide +kernel
theorem d_M_source_27 : decode b_M_source 27 = .ok (.getfield 119, 3) := by decide +kernel
theorem d_M_source_30 : decode b_M_source 30 = .ok (.iconst 4, 1) := by decide +kernel
theorem d_M_source_31 : decode b_M_source 31 = .ok (.if_icmp .ne 5, 3) := by decide +kernel
theorem d_M_source_34 : decode b_M_source 34 = .ok (.iconst (-1), 1) := by decide +kernel
theorem d_M_source_35 : decode b_M_source 35 = .ok (.ireturn, 1) := by decide +kernel
theorem d_M_source_36 : decode b_M_source 36 = .ok (.aload_n 0, 1) := by decide +kernel
theorem d_M_source_37 : decode b_M_source 37 = .ok (.getfield 28, 3) := by decide +kernel
theorem d_M_source_40 : decode b_M_source 40 = .ok (.aload_n 0, 1) := by decide +kernel
theorem d_M_source_41 : decode b_M_source 41 = .ok (.getfield 119, 3) := by decide +kernel
theorem d_M_source_44 : decode b_M_source 44 = .ok (.iload_n 1, 1) := by decide +kernel
theorem d_M_source_45 : decode b_M_source 45 = .ok (.iastore, 1) := by decide +kernel
theorem d_M_source_46 : decode b_M_source 46 = .ok (.aload_n 0, 1) := by decide +kernel
theorem d_M_source_47 : decode b_M_source 47 = .ok (.getfield 31, 3) := by decide +kernel
theorem d_M_source_50 : decode b_M_source 50 = .ok (.aload_n 0, 1) := by decide +kernel
theorem d_M_source_51 : decode b_M_source 51 = .ok (.getfield 119, 3) := by decide +kernel
theorem d_M_source_54 : decode b_M_source 54 = .ok (.iload_n 2, 1) := by decide +kernel
theorem d_M_source_55 : decode b_M_source 55 = .ok (.iastore, 1) := by decide +kernel
theorem d_M_source_56 : decode b_M_source 56 = .ok (.aload_n 0, 1) := by decide +kernel
theorem d_M_source_57 : decode b_M_source 57 = .ok (.getfield 34, 3) := by decide +kernel
theorem d_M_source_60 : decode b_M_source 60 = .ok (.aload_n 0, 1) := by decide +kernel
theorem d_M_source_61 : decode b_M_source 61 = .ok (.getfield 119, 3) := by decide +kernel
theorem d_M_source_64 : decode b_M_source 64 = .ok (.lload_n 3, 1) := by decide +kernel
theorem d_M_source_65 : decode b_M_source 65 = .ok (.lastore, 1) := by decide +kernel
theorem d_M_source_66 : decode b_M_source 66 = .ok (.aload_n 0, 1) := by decide +kernel
theorem d_M_source_67 : decode b_M_source 67 = .ok (.getfield 38, 3) := by decide +kernel
theorem d_M_source_70 : decode b_M_source 70 = .ok (.aload_n 0, 1) := by decide +kernel
theorem d_M_source_71 : decode b_M_source 71 = .ok (.getfield 119, 3) := by decide +kernel
theorem d_M_source_74 : decode b_M_source 74 = .ok (.iload 5, 2) := by decide +kernel
theorem d_M_source_76 : decode b_M_source 76 = .ok (.iastore, 1) := by decide +kernel
theorem d_M_source_77 : decode b_M_source 77 = .ok (.aload_n 0, 1) := by decide +kernel
theorem d_M_source_78 : decode b_M_source 78 = .ok (.dup, 1) := by decide +kernel
theorem d_M_source_79 : decode b_M_source 79 = .ok (.getfield 119, 3) := by decide +kernel
theorem d_M_source_82 : decode b_M_source 82 = .ok (.iconst 1, 1) := by decide +kernel
theorem d_M_source_83 : decode b_M_source 83 = .ok (.iadd, 1) := by decide +kernel
theorem d_M_source_84 : decode b_M_source 84 = .ok (.putfield 119, 3) := by decide +kernel
theorem d_M_source_87 : decode b_M_source 87 = .ok (.aload_n 0, 1) := by decide +kernel
theorem d_M_source_88 : decode b_M_source 88 = .ok (.getfield 119, 3) := by decide +kernel
theorem d_M_source_91 : decode b_M_source 91 = .ok (.iconst 1, 1) := by decide +kernel
theorem d_M_source_92 : decode b_M_source 92 = .ok (.isub, 1) := by decide +kernel
theorem d_M_source_93 : decode b_M_source 93 = .ok (.ireturn, 1) := by decide +kernel
abbrev b_M_probe : ByteArray := prog_9_method_37_code
theorem d_M_probe_0 : decode b_M_probe 0 = .ok (.aload_n 0, 1) := by decide +kernel
theorem d_M_probe_1 : decode b_M_probe 1 = .ok (.iconst 0, 1) := by decide +kernel
theorem d_M_probe_2 : decode b_M_probe 2 = .ok (.putfield 102, 3) := by decide +kernel
theorem d_M_probe_5 : decode b_M_probe 5 = .ok (.iload_n 1, 1) := by decide +kernel
theorem d_M_probe_6 : decode b_M_probe 6 = .ok (.iload_n 2, 1) := by decide +kernel
theorem d_M_probe_7 : decode b_M_probe 7 = .ok (.invokestatic 163, 3) := by decide +kernel
theorem d_M_probe_10 : decode b_M_probe 10 = .ok (.ifCond .eq 11, 3) := by decide +kernel
theorem d_M_probe_13 : decode b_M_probe 13 = .ok (.aload_n 0, 1) := by decide +kernel
theorem d_M_probe_14 : decode b_M_probe 14 = .ok (.getfield 128, 3) := by decide +kernel
theorem d_M_probe_17 : decode b_M_probe 17 = .ok (.iconst 4, 1) := by decide +kernel
theorem d_M_probe_18 : decode b_M_probe 18 = .ok (.if_icmp .ne 5, 3) := by decide +kernel
theorem d_M_probe_21 : decode b_M_probe 21 = .ok (.iconst (-1), 1) := by decide +kernel
theorem d_M_probe_22 : decode b_M_probe 22 = .ok (.ireturn, 1) := by decide +kernel
theorem d_M_probe_23 : decode b_M_probe 23 = .ok (.aload_n 0, 1) := by decide +kernel
theorem d_M_probe_24 : decode b_M_probe 24 = .ok (.getfield 44, 3) := by decide +kernel
theorem d_M_probe_27 : decode b_M_probe 27 = .ok (.aload_n 0, 1) := by decide +kernel
theorem d_M_probe_28 : decode b_M_probe 28 = .ok (.getfield 128, 3) := by decide +kernel
theorem d_M_probe_31 : decode b_M_probe 31 = .ok (.iload_n 1, 1) := by decide +kernel
theorem d_M_probe_32 : decode b_M_probe 32 = .ok (.iastore, 1) := by decide +kernel
theorem d_M_probe_33 : decode b_M_probe 33 = .ok (.aload_n 0, 1) := by decide +kernel
theorem d_M_probe_34 : decode b_M_probe 34 = .ok (.getfield 47, 3) := by decide +kernel
theorem d_M_probe_37 : decode b_M_probe 37 = .ok (.aload_n 0, 1) := by decide +kernel
theorem d_M_probe_38 : decode b_M_probe 38 = .ok (.getfield 128, 3) := by decide +kernel
theorem d_M_probe_41 : decode b_M_probe 41 = .ok (.iload_n 2, 1) := by decide +kernel
theorem d_M_probe_42 : decode b_M_probe 42 = .ok (.iastore, 1) := by decide +kernel
theorem d_M_probe_43 : decode b_M_probe 43 = .ok (.aload_n 0, 1) := by decide +kernel
theorem d_M_probe_44 : decode b_M_probe 44 = .ok (.getfield 53, 3) := by decide +kernel
theorem d_M_probe_47 : decode b_M_probe 47 = .ok (.aload_n 0, 1) := by decide +kernel
theorem d_M_probe_48 : decode b_M_probe 48 = .ok (.getfield 128, 3) := by decide +kernel
theorem d_M_probe_51 : decode b_M_probe 51 = .ok (.iconst (-1), 1) := by decide +kernel
theorem d_M_probe_52 : decode b_M_probe 52 = .ok (.iastore, 1) := by decide +kernel
theorem d_M_probe_53 : decode b_M_probe 53 = .ok (.aload_n 0, 1) := by decide +kernel
theorem d_M_probe_54 : decode b_M_probe 54 = .ok (.dup, 1) := by decide +kernel
theorem d_M_probe_55 : decode b_M_probe 55 = .ok (.getfield 128, 3) := by decide +kernel
theorem d_M_probe_58 : decode b_M_probe 58 = .ok (.iconst 1, 1) := by decide +kernel
theorem d_M_probe_59 : decode b_M_probe 59 = .ok (.iadd, 1) := by decide +kernel
theorem d_M_probe_60 : decode b_M_probe 60 = .ok (.putfield 128, 3) := by decide +kernel
theorem d_M_probe_63 : decode b_M_probe 63 = .ok (.aload_n 0, 1) := by decide +kernel
theorem d_M_probe_64 : decode b_M_probe 64 = .ok (.getfield 128, 3) := by decide +kernel
theorem d_M_probe_67 : decode b_M_probe 67 = .ok (.iconst 1, 1) := by decide +kernel
theorem d_M_probe_68 : decode b_M_probe 68 = .ok (.isub, 1) := by decide +kernel
theorem d_M_probe_69 : decode b_M_probe 69 = .ok (.ireturn, 1) := by decide +kernel
abbrev b_M_seen : ByteArray := prog_9_method_38_code
theorem d_M_seen_0 : decode b_M_seen 0 = .ok (.aload_n 0, 1) := by decide +kernel
theorem d_M_seen_1 : decode b_M_seen 1 = .ok (.iload_n 1, 1) := by decide +kernel
theorem d_M_seen_2 : decode b_M_seen 2 = .ok (.ifCond .lt 20, 3) := by decide +kernel
theorem d_M_seen_5 : decode b_M_seen 5 = .ok (.iload_n 1, 1) := by decide +kernel
theorem d_M_seen_6 : decode b_M_seen 6 = .ok (.aload_n 0, 1) := by decide +kernel
theorem d_M_seen_7 : decode b_M_seen 7 = .ok (.getfield 128, 3) := by decide +kernel
theorem d_M_seen_10 : decode b_M_seen 10 = .ok (.if_icmp .ge 12, 3) := by decide +kernel
theorem d_M_seen_13 : decode b_M_seen 13 = .ok (.iload_n 2, 1) := by decide +kernel
theorem d_M_seen_14 : decode b_M_seen 14 = .ok (.ifCond .lt 8, 3) := by decide +kernel
theorem d_M_seen_17 : decode b_M_seen 17 = .ok (.iload_n 2, 1) := by decide +kernel
theorem d_M_seen_18 : decode b_M_seen 18 = .ok (.iconst 1, 1) := by decide +kernel
theorem d_M_seen_19 : decode b_M_seen 19 = .ok (.if_icmp .le 7, 3) := by decide +kernel
theorem d_M_seen_22 : decode b_M_seen 22 = .ok (.iconst 1, 1) := by decide +kernel
theorem d_M_seen_23 : decode b_M_seen 23 = .ok (.goto 4, 3) := by decide +kernel
theorem d_M_seen_26 : decode b_M_seen 26 = .ok (.iconst 0, 1) := by decide +kernel
theorem d_M_seen_27 : decode b_M_seen 27 = .ok (.putfield 102, 3) := by decide +kernel
theorem d_M_seen_30 : decode b_M_seen 30 = .ok (.aload_n 0, 1) := by decide +kernel
theorem d_M_seen_31 : decode b_M_seen 31 = .ok (.getfield 102, 3) := by decide +kernel
theorem d_M_seen_34 : decode b_M_seen 34 = .ok (.ifCond .le 7, 3) := by decide +kernel
theorem d_M_seen_37 : decode b_M_seen 37 = .ok (.iconst 0, 1) := by decide +kernel
theorem d_M_seen_38 : decode b_M_seen 38 = .ok (.goto 22, 3) := by decide +kernel
theorem d_M_seen_41 : decode b_M_seen 41 = .ok (.iload_n 2, 1) := by decide +kernel
theorem d_M_seen_42 : decode b_M_seen 42 = .ok (.ifCond .ne 12, 3) := by decide +kernel
theorem d_M_seen_45 : decode b_M_seen 45 = .ok (.aload_n 0, 1) := by decide +kernel
theorem d_M_seen_46 : decode b_M_seen 46 = .ok (.getfield 50, 3) := by decide +kernel
theorem d_M_seen_49 : decode b_M_seen 49 = .ok (.iload_n 1, 1) := by decide +kernel
theorem d_M_seen_50 : decode b_M_seen 50 = .ok (.iaload, 1) := by decide +kernel
theorem d_M_seen_51 : decode b_M_seen 51 = .ok (.goto 9, 3) := by decide +kernel
theorem d_M_seen_54 : decode b_M_seen 54 = .ok (.aload_n 0, 1) := by decide +kernel
theorem d_M_seen_55 : decode b_M_seen 55 = .ok (.getfield 53, 3) := by decide +kernel
theorem d_M_seen_58 : decode b_M_seen 58 = .ok (.iload_n 1, 1) := by decide +kernel
theorem d_M_seen_59 : decode b_M_seen 59 = .ok (.iaload, 1) := by decide +kernel
theorem d_M_seen_60 : decode b_M_seen 60 = .ok (.ireturn, 1) := by decide +kernel
abbrev b_M_record : ByteArray := prog_9_method_39_code
theorem d_M_record_0 : decode b_M_record 0 = .ok (.aload_n 0, 1) := by decide +kernel
theorem d_M_record_1 : decode b_M_record 1 = .ok (.iconst 0, 1) := by decide +kernel
theorem d_M_record_2 : decode b_M_record 2 = .ok (.putfield 102, 3) := by decide +kernel
theorem d_M_record_5 : decode b_M_record 5 = .ok (.iload_n 1, 1) := by decide +kernel
theorem d_M_record_6 : decode b_M_record 6 = .ok (.ifCond .lt 11, 3) := by decide +kernel
theorem d_M_record_9 : decode b_M_record 9 = .ok (.iload_n 1, 1) := by decide +kernel
theorem d_M_record_10 : decode b_M_record 10 = .ok (.aload_n 0, 1) := by decide +kernel
theorem d_M_record_11 : decode b_M_record 11 = .ok (.getfield 128, 3) := by decide +kernel
theorem d_M_record_14 : decode b_M_record 14 = .ok (.if_icmp .lt 7, 3) := by decide +kernel
theorem d_M_record_17 : decode b_M_record 17 = .ok (.lconst 0, 1) := by decide +kernel
theorem d_M_record_18 : decode b_M_record 18 = .ok (.goto 9, 3) := by decide +kernel
theorem d_M_record_21 : decode b_M_record 21 = .ok (.aload_n 0, 1) := by decide +kernel
theorem d_M_record_22 : decode b_M_record 22 = .ok (.getfield 56, 3) := by decide +kernel
theorem d_M_record_25 : decode b_M_record 25 = .ok (.iload_n 1, 1) := by decide +kernel
theorem d_M_record_26 : decode b_M_record 26 = .ok (.laload, 1) := by decide +kernel
theorem d_M_record_27 : decode b_M_record 27 = .ok (.lreturn, 1) := by decide +kernel
abbrev b_M_count : ByteArray := prog_9_method_40_code
theorem d_M_count_0 : decode b_M_count 0 = .ok (.iconst 0, 1) := by decide +kernel
theorem d_M_count_1 : decode b_M_count 1 = .ok (.istore_n 2, 1) := by decide +kernel
theorem d_M_count_2 : decode b_M_count 2 = .ok (.iconst 0, 1) := by decide +kernel
theorem d_M_count_3 : decode b_M_count 3 = .ok (.istore_n 3, 1) := by decide +kernel
theorem d_M_count_4 : decode b_M_count 4 = .ok (.iload_n 3, 1) := by decide +kernel
theorem d_M_count_5 : decode b_M_count 5 = .ok (.sipush 768, 3) := by decide +kernel
theorem d_M_count_8 : decode b_M_count 8 = .ok (.if_icmp .ge 66, 3) := by decide +kernel
theorem d_M_count_11 : decode b_M_count 11 = .ok (.iload_n 1, 1) := by decide +kernel
theorem d_M_count_12 : decode b_M_count 12 = .ok (.iconst 1, 1) := by decide +kernel
theorem d_M_count_13 : decode b_M_count 13 = .ok (.if_icmp .ne 15, 3) := by decide +kernel
theorem d_M_count_16 : decode b_M_count 16 = .ok (.aload_n 0, 1) := by decide +kernel
theorem d_M_count_17 : decode b_M_count 17 = .ok (.getfield 7, 3) := by decide +kernel
theorem d_M_count_20 : decode b_M_count 20 = .ok (.iload_n 3, 1) := by decide +kernel
theorem d_M_count_21 : decode b_M_count 21 = .ok (.bipush 32, 2) := by decide +kernel
theorem d_M_count_23 : decode b_M_count 23 = .ok (.idiv, 1) := by decide +kernel
theorem d_M_count_24 : decode b_M_count 24 = .ok (.iaload, 1) := by decide +kernel
theorem d_M_count_25 : decode b_M_count 25 = .ok (.goto 29, 3) := by decide +kernel
theorem d_M_count_28 : decode b_M_count 28 = .ok (.iload_n 1, 1) := by decide +kernel
theorem d_M_count_29 : decode b_M_count 29 = .ok (.iconst 2, 1) := by decide +kernel
theorem d_M_count_30 : decode b_M_count 30 = .ok (.if_icmp .ne 15, 3) := by decide +kernel
theorem d_M_count_33 : decode b_M_count 33 = .ok (.aload_n 0, 1) := by decide +kernel
theorem d_M_count_34 : decode b_M_count 34 = .ok (.getfield 13, 3) := by decide +kernel
theorem d_M_count_37 : decode b_M_count 37 = .ok (.iload_n 3, 1) := by decide +kernel
theorem d_M_count_38 : decode b_M_count 38 = .ok (.bipush 32, 2) := by decide +kernel
theorem d_M_count_40 : decode b_M_count 40 = .ok (.idiv, 1) := by decide +kernel
theorem d_M_count_41 : decode b_M_count 41 = .ok (.iaload, 1) := by decide +kernel
theorem d_M_count_42 : decode b_M_count 42 = .ok (.goto 12, 3) := by decide +kernel
theorem d_M_count_45 : decode b_M_count 45 = .ok (.aload_n 0, 1) := by decide +kernel
theorem d_M_count_46 : decode b_M_count 46 = .ok (.getfield 16, 3) := by decide +kernel
theorem d_M_count_49 : decode b_M_count 49 = .ok (.iload_n 3, 1) := by decide +kernel
theorem d_M_count_50 : decode b_M_count 50 = .ok (.bipush 32, 2) := by decide +kernel
theorem d_M_count_52 : decode b_M_count 52 = .ok (.idiv, 1) := by decide +kernel
theorem d_M_count_53 : decode b_M_count 53 = .ok (.iaload, 1) := by decide +kernel
theorem d_M_count_54 : decode b_M_count 54 = .ok (.istore 4, 2) := by decide +kernel
theorem d_M_count_56 : decode b_M_count 56 = .ok (.iload_n 2, 1) := by decide +kernel
theorem d_M_count_57 : decode b_M_count 57 = .ok (.iload 4, 2) := by decide +kernel
theorem d_M_count_59 : decode b_M_count 59 = .ok (.iload_n 3, 1) := by decide +kernel
theorem d_M_count_60 : decode b_M_count 60 = .ok (.bipush 32, 2) := by decide +kernel
theorem d_M_count_62 : decode b_M_count 62 = .ok (.irem, 1) := by decide +kernel
theorem d_M_count_63 : decode b_M_count 63 = .ok (.invokestatic 131, 3) := by decide +kernel
theorem d_M_count_66 : decode b_M_count 66 = .ok (.iadd, 1) := by decide +kernel
theorem d_M_count_67 : decode b_M_count 67 = .ok (.istore_n 2, 1) := by decide +kernel
theorem d_M_count_68 : decode b_M_count 68 = .ok (.iinc 3 1, 3) := by decide +kernel
theorem d_M_count_71 : decode b_M_count 71 = .ok (.goto (-67), 3) := by decide +kernel
theorem d_M_count_74 : decode b_M_count 74 = .ok (.iload_n 2, 1) := by decide +kernel
theorem d_M_count_75 : decode b_M_count 75 = .ok (.ireturn, 1) := by decide +kernel
abbrev b_M_look : ByteArray := prog_9_method_41_code
theorem d_M_look_0 : decode b_M_look 0 = .ok (.aload_n 0, 1) := by decide +kernel
theorem d_M_look_1 : decode b_M_look 1 = .ok (.iconst 0, 1) := by decide +kernel
theorem d_M_look_2 : decode b_M_look 2 = .ok (.putfield 102, 3) := by decide +kernel
theorem d_M_look_5 : decode b_M_look 5 = .ok (.iload_n 1, 1) := by decide +kernel
theorem d_M_look_6 : decode b_M_look 6 = .ok (.iconst 4, 1) := by decide +kernel
theorem d_M_look_7 : decode b_M_look 7 = .ok (.if_icmp .ge 28, 3) := by decide +kernel
theorem d_M_look_10 : decode b_M_look 10 = .ok (.iload_n 1, 1) := by decide +kernel
theorem d_M_look_11 : decode b_M_look 11 = .ok (.ifCond .ne 10, 3) := by decide +kernel
theorem d_M_look_14 : decode b_M_look 14 = .ok (.aload_n 0, 1) := by decide +kernel
theorem d_M_look_15 : decode b_M_look 15 = .ok (.getfield 125, 3) := by decide +kernel
theorem d_M_look_18 : decode b_M_look 18 = .ok (.goto 16, 3) := by decide +kernel
theorem d_M_look_21 : decode b_M_look 21 = .ok (.iload_n 1, 1) := by decide +kernel
theorem d_M_look_22 : decode b_M_look 22 = .ok (.ifCond .le 11, 3) := by decide +kernel
theorem d_M_look_25 : decode b_M_look 25 = .ok (.aload_n 0, 1) := by decide +kernel
theorem d_M_look_26 : decode b_M_look 26 = .ok (.iload_n 1, 1) := by decide +kernel
theorem d_M_look_27 : decode b_M_look 27 = .ok (.invokevirtual 140, 3) := by decide +kernel
theorem d_M_look_30 : decode b_M_look 30 = .ok (.goto 4, 3) := by decide +kernel
theorem d_M_look_33 : decode b_M_look 33 = .ok (.iconst (-1), 1) := by decide +kernel
theorem d_M_look_34 : decode b_M_look 34 = .ok (.ireturn, 1) := by decide +kernel
theorem d_M_look_35 : decode b_M_look 35 = .ok (.iload_n 1, 1) := by decide +kernel
theorem d_M_look_36 : decode b_M_look 36 = .ok (.iconst 4, 1) := by decide +kernel
theorem d_M_look_37 : decode b_M_look 37 = .ok (.if_icmp .ne 10, 3) := by decide +kernel
theorem d_M_look_40 : decode b_M_look 40 = .ok (.aload_n 0, 1) := by decide +kernel
theorem d_M_look_41 : decode b_M_look 41 = .ok (.getfield 113, 3) := by decide +kernel
theorem d_M_look_44 : decode b_M_look 44 = .ok (.goto 44, 3) := by decide +kernel
theorem d_M_look_47 : decode b_M_look 47 = .ok (.iload_n 1, 1) := by decide +kernel
theorem d_M_look_48 : decode b_M_look 48 = .ok (.iconst 5, 1) := by decide +kernel
theorem d_M_look_49 : decode b_M_look 49 = .ok (.if_icmp .ne 10, 3) := by decide +kernel
theorem d_M_look_52 : decode b_M_look 52 = .ok (.aload_n 0, 1) := by decide +kernel
theorem d_M_look_53 : decode b_M_look 53 = .ok (.getfield 119, 3) := by decide +kernel
theorem d_M_look_56 : decode b_M_look 56 = .ok (.goto 32, 3) := by decide +kernel
theorem d_M_look_59 : decode b_M_look 59 = .ok (.iload_n 1, 1) := by decide +kernel
theorem d_M_look_60 : decode b_M_look 60 = .ok (.bipush 6, 2) := by decide +kernel
theorem d_M_look_62 : decode b_M_look 62 = .ok (.if_icmp .ne 10, 3) := by decide +kernel
theorem d_M_look_65 : decode b_M_look 65 = .ok (.aload_n 0, 1) := by decide +kernel
theorem d_M_look_66 : decode b_M_look 66 = .ok (.getfield 128, 3) := by decide +kernel
theorem d_M_look_69 : decode b_M_look 69 = .ok (.goto 19, 3) := by decide +kernel
theorem d_M_look_72 : decode b_M_look 72 = .ok (.iload_n 1, 1) := by decide +kernel
theorem d_M_look_73 : decode b_M_look 73 = .ok (.bipush 7, 2) := by decide +kernel
theorem d_M_look_75 : decode b_M_look 75 = .ok (.if_icmp .ne 12, 3) := by decide +kernel
theorem d_M_look_78 : decode b_M_look 78 = .ok (.aload_n 0, 1) := by decide +kernel
theorem d_M_look_79 : decode b_M_look 79 = .ok (.getfield 62, 3) := by decide +kernel
theorem d_M_look_82 : decode b_M_look 82 = .ok (.iconst 4, 1) := by decide +kernel
theorem d_M_look_83 : decode b_M_look 83 = .ok (.iaload, 1) := by decide +kernel
theorem d_M_look_84 : decode b_M_look 84 = .ok (.goto 4, 3) := by decide +kernel
theorem d_M_look_87 : decode b_M_look 87 = .ok (.iconst (-1), 1) := by decide +kernel
theorem d_M_look_88 : decode b_M_look 88 = .ok (.ireturn, 1) := by decide +kernel
end
section
def y_Int_bitCount : MethodName := ⟨"java/lang/Integer", "bitCount", "(I)I"⟩
theorem yf_Int_bitCount : jY y_Int_bitCount prog_14_method_49_code 1 (some .int) 1 := ⟨w_337, w_22, by decide, by decide, by decide +kernel⟩
def y_Math_floorMod : MethodName := ⟨"java/lang/Math", "floorMod", "(II)I"⟩
theorem yf_Math_floorMod : jY y_Math_floorMod prog_15_method_50_code 3 (some .int) 2 := ⟨w_304, w_15, by decide, by decide, by decide +kernel⟩
def y_Math_min : MethodName := ⟨"java/lang/Math", "min", "(II)I"⟩
theorem yf_Math_min : jY y_Math_min prog_15_method_69_code 2 (some .int) 2 := ⟨w_307, w_15, by decide, by decide, by decide +kernel⟩
def y_Math_max : MethodName := ⟨"java/lang/Math", "max", "(II)I"⟩
theorem yf_Math_max : jY y_Math_max prog_15_method_65_code 2 (some .int) 2 := ⟨w_324, w_15, by decide, by decide, by decide +kernel⟩
def y_Str_indexOf : MethodName := ⟨"java/lang/String", "indexOf", "(I)I"⟩
theorem yf_Str_indexOf : jY y_Str_indexOf prog_17_method_79_code 2 (some .int) 1 := ⟨w_473, w_13, by decide, by decide, by decide +kernel⟩
def y_Str_indexOf2 : MethodName := ⟨"java/lang/String", "indexOf", "(II)I"⟩
theorem yf_Str_indexOf2 : jY y_Str_indexOf2 prog_17_method_80_code 3 (some .int) 2 := ⟨w_477, w_13, by decide, by decide, by decide +kernel⟩
def y_Str_isLatin1 : MethodName := ⟨"java/lang/String", "isLatin1", "()Z"⟩
theorem yf_Str_isLatin1 : jY y_Str_isLatin1 prog_17_method_154_code 1 (some .boolean) 0 := ⟨w_481, w_13, by decide, by decide, by decide +kernel⟩
def y_Str_length : MethodName := ⟨"java/lang/String", "length", "()I"⟩
theorem yf_Str_length : jY y_Str_length prog_17_method_54_code 1 (some .int) 0 := ⟨w_487, w_13, by decide, by decide, by decide +kernel⟩
def y_Str_coder : MethodName := ⟨"java/lang/String", "coder", "()B"⟩
theorem yf_Str_coder : jY y_Str_coder prog_17_method_152_code 1 (some .byte) 0 := ⟨w_491, w_13, by decide, by decide, by decide +kernel⟩
def y_Lat_indexOf : MethodName := ⟨"java/lang/StringLatin1", "indexOf", "([BIII)I"⟩
theorem yf_Lat_indexOf : jY y_Lat_indexOf prog_18_method_22_code 4 (some .int) 4 := ⟨w_494, w_14, by decide, by decide, by decide +kernel⟩
def y_Lat_canEncode : MethodName := ⟨"java/lang/StringLatin1", "canEncode", "(I)Z"⟩
theorem yf_Lat_canEncode : jY y_Lat_canEncode prog_18_method_4_code 1 (some .boolean) 1 := ⟨w_497, w_14, by decide, by decide, by decide +kernel⟩
def y_Lat_indexOfChar : MethodName := ⟨"java/lang/StringLatin1", "indexOfChar", "([BIII)I"⟩
theorem yf_Lat_indexOfChar : jY y_Lat_indexOfChar prog_18_method_23_code 6 (some .int) 4 := ⟨w_502, w_14, by decide, by decide, by decide +kernel⟩
abbrev b_Int_bitCount : ByteArray := prog_14_method_49_code
theorem d_Int_bitCount_0 : decode b_Int_bitCount 0 = .ok (.iload_n 0, 1) := by decide +kernel
theorem d_Int_bitCount_1 : decode b_Int_bitCount 1 = .ok (.iload_n 0, 1) := by decide +kernel
theorem d_Int_bitCount_2 : decode b_Int_bitCount 2 = .ok (.iconst 1, 1) := by decide +kernel
theorem d_Int_bitCount_3 : decode b_Int_bitCount 3 = .ok (.iushr, 1) := by decide +kernel
theorem d_Int_bitCount_4 : decode b_Int_bitCount 4 = .ok (.ldc_w 265, 3) := by decide +kernel
theorem d_Int_bitCount_7 : decode b_Int_bitCount 7 = .ok (.iand, 1) := by decide +kernel
theorem d_Int_bitCount_8 : decode b_Int_bitCount 8 = .ok (.isub, 1) := by decide +kernel
theorem d_Int_bitCount_9 : decode b_Int_bitCount 9 = .ok (.istore_n 0, 1) := by decide +kernel
theorem d_Int_bitCount_10 : decode b_Int_bitCount 10 = .ok (.iload_n 0, 1) := by decide +kernel
theorem d_Int_bitCount_11 : decode b_Int_bitCount 11 = .ok (.ldc_w 266, 3) := by decide +kernel
theorem d_Int_bitCount_14 : decode b_Int_bitCount 14 = .ok (.iand, 1) := by decide +kernel
theorem d_Int_bitCount_15 : decode b_Int_bitCount 15 = .ok (.iload_n 0, 1) := by decide +kernel
theorem d_Int_bitCount_16 : decode b_Int_bitCount 16 = .ok (.iconst 2, 1) := by decide +kernel
theorem d_Int_bitCount_17 : decode b_Int_bitCount 17 = .ok (.iushr, 1) := by decide +kernel
theorem d_Int_bitCount_18 : decode b_Int_bitCount 18 = .ok (.ldc_w 266, 3) := by decide +kernel
theorem d_Int_bitCount_21 : decode b_Int_bitCount 21 = .ok (.iand, 1) := by decide +kernel
theorem d_Int_bitCount_22 : decode b_Int_bitCount 22 = .ok (.iadd, 1) := by decide +kernel
theorem d_Int_bitCount_23 : decode b_Int_bitCount 23 = .ok (.istore_n 0, 1) := by decide +kernel
theorem d_Int_bitCount_24 : decode b_Int_bitCount 24 = .ok (.iload_n 0, 1) := by decide +kernel
theorem d_Int_bitCount_25 : decode b_Int_bitCount 25 = .ok (.iload_n 0, 1) := by decide +kernel
theorem d_Int_bitCount_26 : decode b_Int_bitCount 26 = .ok (.iconst 4, 1) := by decide +kernel
theorem d_Int_bitCount_27 : decode b_Int_bitCount 27 = .ok (.iushr, 1) := by decide +kernel
theorem d_Int_bitCount_28 : decode b_Int_bitCount 28 = .ok (.iadd, 1) := by decide +kernel
theorem d_Int_bitCount_29 : decode b_Int_bitCount 29 = .ok (.ldc_w 267, 3) := by decide +kernel
theorem d_Int_bitCount_32 : decode b_Int_bitCount 32 = .ok (.iand, 1) := by decide +kernel
theorem d_Int_bitCount_33 : decode b_Int_bitCount 33 = .ok (.istore_n 0, 1) := by decide +kernel
theorem d_Int_bitCount_34 : decode b_Int_bitCount 34 = .ok (.iload_n 0, 1) := by decide +kernel
theorem d_Int_bitCount_35 : decode b_Int_bitCount 35 = .ok (.iload_n 0, 1) := by decide +kernel
theorem d_Int_bitCount_36 : decode b_Int_bitCount 36 = .ok (.bipush 8, 2) := by decide +kernel
theorem d_Int_bitCount_38 : decode b_Int_bitCount 38 = .ok (.iushr, 1) := by decide +kernel
theorem d_Int_bitCount_39 : decode b_Int_bitCount 39 = .ok (.iadd, 1) := by decide +kernel
theorem d_Int_bitCount_40 : decode b_Int_bitCount 40 = .ok (.istore_n 0, 1) := by decide +kernel
theorem d_Int_bitCount_41 : decode b_Int_bitCount 41 = .ok (.iload_n 0, 1) := by decide +kernel
theorem d_Int_bitCount_42 : decode b_Int_bitCount 42 = .ok (.iload_n 0, 1) := by decide +kernel
theorem d_Int_bitCount_43 : decode b_Int_bitCount 43 = .ok (.bipush 16, 2) := by decide +kernel
theorem d_Int_bitCount_45 : decode b_Int_bitCount 45 = .ok (.iushr, 1) := by decide +kernel
theorem d_Int_bitCount_46 : decode b_Int_bitCount 46 = .ok (.iadd, 1) := by decide +kernel
theorem d_Int_bitCount_47 : decode b_Int_bitCount 47 = .ok (.istore_n 0, 1) := by decide +kernel
theorem d_Int_bitCount_48 : decode b_Int_bitCount 48 = .ok (.iload_n 0, 1) := by decide +kernel
theorem d_Int_bitCount_49 : decode b_Int_bitCount 49 = .ok (.bipush 63, 2) := by decide +kernel
theorem d_Int_bitCount_51 : decode b_Int_bitCount 51 = .ok (.iand, 1) := by decide +kernel
theorem d_Int_bitCount_52 : decode b_Int_bitCount 52 = .ok (.ireturn, 1) := by decide +kernel
abbrev b_Math_floorMod : ByteArray := prog_15_method_50_code
theorem d_Math_floorMod_0 : decode b_Math_floorMod 0 = .ok (.iload_n 0, 1) := by decide +kernel
theorem d_Math_floorMod_1 : decode b_Math_floorMod 1 = .ok (.iload_n 1, 1) := by decide +kernel
theorem d_Math_floorMod_2 : decode b_Math_floorMod 2 = .ok (.irem, 1) := by decide +kernel
theorem d_Math_floorMod_3 : decode b_Math_floorMod 3 = .ok (.istore_n 2, 1) := by decide +kernel
theorem d_Math_floorMod_4 : decode b_Math_floorMod 4 = .ok (.iload_n 0, 1) := by decide +kernel
theorem d_Math_floorMod_5 : decode b_Math_floorMod 5 = .ok (.iload_n 1, 1) := by decide +kernel
theorem d_Math_floorMod_6 : decode b_Math_floorMod 6 = .ok (.ixor, 1) := by decide +kernel
theorem d_Math_floorMod_7 : decode b_Math_floorMod 7 = .ok (.ifCond .ge 11, 3) := by decide +kernel
theorem d_Math_floorMod_10 : decode b_Math_floorMod 10 = .ok (.iload_n 2, 1) := by decide +kernel
theorem d_Math_floorMod_11 : decode b_Math_floorMod 11 = .ok (.ifCond .eq 7, 3) := by decide +kernel
theorem d_Math_floorMod_14 : decode b_Math_floorMod 14 = .ok (.iload_n 2, 1) := by decide +kernel
theorem d_Math_floorMod_15 : decode b_Math_floorMod 15 = .ok (.iload_n 1, 1) := by decide +kernel
theorem d_Math_floorMod_16 : decode b_Math_floorMod 16 = .ok (.iadd, 1) := by decide +kernel
theorem d_Math_floorMod_17 : decode b_Math_floorMod 17 = .ok (.ireturn, 1) := by decide +kernel
theorem d_Math_floorMod_18 : decode b_Math_floorMod 18 = .ok (.iload_n 2, 1) := by decide +kernel
theorem d_Math_floorMod_19 : decode b_Math_floorMod 19 = .ok (.ireturn, 1) := by decide +kernel
abbrev b_Math_min : ByteArray := prog_15_method_69_code
theorem d_Math_min_0 : decode b_Math_min 0 = .ok (.iload_n 0, 1) := by decide +kernel
theorem d_Math_min_1 : decode b_Math_min 1 = .ok (.iload_n 1, 1) := by decide +kernel
theorem d_Math_min_2 : decode b_Math_min 2 = .ok (.if_icmp .gt 7, 3) := by decide +kernel
theorem d_Math_min_5 : decode b_Math_min 5 = .ok (.iload_n 0, 1) := by decide +kernel
theorem d_Math_min_6 : decode b_Math_min 6 = .ok (.goto 4, 3) := by decide +kernel
theorem d_Math_min_9 : decode b_Math_min 9 = .ok (.iload_n 1, 1) := by decide +kernel
theorem d_Math_min_10 : decode b_Math_min 10 = .ok (.ireturn, 1) := by decide +kernel
abbrev b_Math_max : ByteArray := prog_15_method_65_code
theorem d_Math_max_0 : decode b_Math_max 0 = .ok (.iload_n 0, 1) := by decide +kernel
theorem d_Math_max_1 : decode b_Math_max 1 = .ok (.iload_n 1, 1) := by decide +kernel
theorem d_Math_max_2 : decode b_Math_max 2 = .ok (.if_icmp .lt 7, 3) := by decide +kernel
theorem d_Math_max_5 : decode b_Math_max 5 = .ok (.iload_n 0, 1) := by decide +kernel
theorem d_Math_max_6 : decode b_Math_max 6 = .ok (.goto 4, 3) := by decide +kernel
theorem d_Math_max_9 : decode b_Math_max 9 = .ok (.iload_n 1, 1) := by decide +kernel
theorem d_Math_max_10 : decode b_Math_max 10 = .ok (.ireturn, 1) := by decide +kernel
abbrev b_Str_indexOf : ByteArray := prog_17_method_79_code
theorem d_Str_indexOf_0 : decode b_Str_indexOf 0 = .ok (.aload_n 0, 1) := by decide +kernel
theorem d_Str_indexOf_1 : decode b_Str_indexOf 1 = .ok (.iload_n 1, 1) := by decide +kernel
theorem d_Str_indexOf_2 : decode b_Str_indexOf 2 = .ok (.iconst 0, 1) := by decide +kernel
theorem d_Str_indexOf_3 : decode b_Str_indexOf 3 = .ok (.invokevirtual 633, 3) := by decide +kernel
theorem d_Str_indexOf_6 : decode b_Str_indexOf 6 = .ok (.ireturn, 1) := by decide +kernel
abbrev b_Str_indexOf2 : ByteArray := prog_17_method_80_code
theorem d_Str_indexOf2_0 : decode b_Str_indexOf2 0 = .ok (.aload_n 0, 1) := by decide +kernel
theorem d_Str_indexOf2_1 : decode b_Str_indexOf2 1 = .ok (.invokevirtual 492, 3) := by decide +kernel
theorem d_Str_indexOf2_4 : decode b_Str_indexOf2 4 = .ok (.ifCond .eq 19, 3) := by decide +kernel
theorem d_Str_indexOf2_7 : decode b_Str_indexOf2 7 = .ok (.aload_n 0, 1) := by decide +kernel
theorem d_Str_indexOf2_8 : decode b_Str_indexOf2 8 = .ok (.getfield 9, 3) := by decide +kernel
theorem d_Str_indexOf2_11 : decode b_Str_indexOf2 11 = .ok (.iload_n 1, 1) := by decide +kernel
theorem d_Str_indexOf2_12 : decode b_Str_indexOf2 12 = .ok (.iload_n 2, 1) := by decide +kernel
theorem d_Str_indexOf2_13 : decode b_Str_indexOf2 13 = .ok (.aload_n 0, 1) := by decide +kernel
theorem d_Str_indexOf2_14 : decode b_Str_indexOf2 14 = .ok (.invokevirtual 505, 3) := by decide +kernel
theorem d_Str_indexOf2_17 : decode b_Str_indexOf2 17 = .ok (.invokestatic 637, 3) := by decide +kernel
theorem d_Str_indexOf2_20 : decode b_Str_indexOf2 20 = .ok (.goto 16, 3) := by decide +kernel
theorem d_Str_indexOf2_23 : decode b_Str_indexOf2 23 = .ok (.aload_n 0, 1) := by decide +kernel
theorem d_Str_indexOf2_24 : decode b_Str_indexOf2 24 = .ok (.getfield 9, 3) := by decide +kernel
theorem d_Str_indexOf2_27 : decode b_Str_indexOf2 27 = .ok (.iload_n 1, 1) := by decide +kernel
theorem d_Str_indexOf2_28 : decode b_Str_indexOf2 28 = .ok (.iload_n 2, 1) := by decide +kernel
theorem d_Str_indexOf2_29 : decode b_Str_indexOf2 29 = .ok (.aload_n 0, 1) := by decide +kernel
theorem d_Str_indexOf2_30 : decode b_Str_indexOf2 30 = .ok (.invokevirtual 505, 3) := by decide +kernel
theorem d_Str_indexOf2_33 : decode b_Str_indexOf2 33 = .ok (.invokestatic 640, 3) := by decide +kernel
theorem d_Str_indexOf2_36 : decode b_Str_indexOf2 36 = .ok (.ireturn, 1) := by decide +kernel
abbrev b_Str_isLatin1 : ByteArray := prog_17_method_154_code
theorem d_Str_isLatin1_0 : decode b_Str_isLatin1 0 = .ok (.getstatic 38, 3) := by decide +kernel
theorem d_Str_isLatin1_3 : decode b_Str_isLatin1 3 = .ok (.ifCond .eq 14, 3) := by decide +kernel
theorem d_Str_isLatin1_6 : decode b_Str_isLatin1 6 = .ok (.aload_n 0, 1) := by decide +kernel
theorem d_Str_isLatin1_7 : decode b_Str_isLatin1 7 = .ok (.getfield 15, 3) := by decide +kernel
theorem d_Str_isLatin1_10 : decode b_Str_isLatin1 10 = .ok (.ifCond .ne 7, 3) := by decide +kernel
theorem d_Str_isLatin1_13 : decode b_Str_isLatin1 13 = .ok (.iconst 1, 1) := by decide +kernel
theorem d_Str_isLatin1_14 : decode b_Str_isLatin1 14 = .ok (.goto 4, 3) := by decide +kernel
theorem d_Str_isLatin1_17 : decode b_Str_isLatin1 17 = .ok (.iconst 0, 1) := by decide +kernel
theorem d_Str_isLatin1_18 : decode b_Str_isLatin1 18 = .ok (.ireturn, 1) := by decide +kernel
abbrev b_Str_length : ByteArray := prog_17_method_54_code
theorem d_Str_length_0 : decode b_Str_length 0 = .ok (.aload_n 0, 1) := by decide +kernel
theorem d_Str_length_1 : decode b_Str_length 1 = .ok (.getfield 9, 3) := by decide +kernel
theorem d_Str_length_4 : decode b_Str_length 4 = .ok (.arraylength, 1) := by decide +kernel
theorem d_Str_length_5 : decode b_Str_length 5 = .ok (.aload_n 0, 1) := by decide +kernel
theorem d_Str_length_6 : decode b_Str_length 6 = .ok (.invokevirtual 335, 3) := by decide +kernel
theorem d_Str_length_9 : decode b_Str_length 9 = .ok (.ishr, 1) := by decide +kernel
theorem d_Str_length_10 : decode b_Str_length 10 = .ok (.ireturn, 1) := by decide +kernel
abbrev b_Str_coder : ByteArray := prog_17_method_152_code
theorem d_Str_coder_0 : decode b_Str_coder 0 = .ok (.getstatic 38, 3) := by decide +kernel
theorem d_Str_coder_3 : decode b_Str_coder 3 = .ok (.ifCond .eq 10, 3) := by decide +kernel
theorem d_Str_coder_6 : decode b_Str_coder 6 = .ok (.aload_n 0, 1) := by decide +kernel
theorem d_Str_coder_7 : decode b_Str_coder 7 = .ok (.getfield 15, 3) := by decide +kernel
theorem d_Str_coder_10 : decode b_Str_coder 10 = .ok (.goto 4, 3) := by decide +kernel
theorem d_Str_coder_13 : decode b_Str_coder 13 = .ok (.iconst 1, 1) := by decide +kernel
theorem d_Str_coder_14 : decode b_Str_coder 14 = .ok (.ireturn, 1) := by decide +kernel
abbrev b_Lat_indexOf : ByteArray := prog_18_method_22_code
theorem d_Lat_indexOf_0 : decode b_Lat_indexOf 0 = .ok (.iload_n 1, 1) := by decide +kernel
theorem d_Lat_indexOf_1 : decode b_Lat_indexOf 1 = .ok (.invokestatic 88, 3) := by decide +kernel
theorem d_Lat_indexOf_4 : decode b_Lat_indexOf 4 = .ok (.ifCond .ne 5, 3) := by decide +kernel
theorem d_Lat_indexOf_7 : decode b_Lat_indexOf 7 = .ok (.iconst (-1), 1) := by decide +kernel
theorem d_Lat_indexOf_8 : decode b_Lat_indexOf 8 = .ok (.ireturn, 1) := by decide +kernel
theorem d_Lat_indexOf_9 : decode b_Lat_indexOf 9 = .ok (.iload_n 2, 1) := by decide +kernel
theorem d_Lat_indexOf_10 : decode b_Lat_indexOf 10 = .ok (.iconst 0, 1) := by decide +kernel
theorem d_Lat_indexOf_11 : decode b_Lat_indexOf 11 = .ok (.invokestatic 92, 3) := by decide +kernel
theorem d_Lat_indexOf_14 : decode b_Lat_indexOf 14 = .ok (.istore_n 2, 1) := by decide +kernel
theorem d_Lat_indexOf_15 : decode b_Lat_indexOf 15 = .ok (.iload_n 3, 1) := by decide +kernel
theorem d_Lat_indexOf_16 : decode b_Lat_indexOf 16 = .ok (.aload_n 0, 1) := by decide +kernel
theorem d_Lat_indexOf_17 : decode b_Lat_indexOf 17 = .ok (.arraylength, 1) := by decide +kernel
theorem d_Lat_indexOf_18 : decode b_Lat_indexOf 18 = .ok (.invokestatic 38, 3) := by decide +kernel
theorem d_Lat_indexOf_21 : decode b_Lat_indexOf 21 = .ok (.istore_n 3, 1) := by decide +kernel
theorem d_Lat_indexOf_22 : decode b_Lat_indexOf 22 = .ok (.iload_n 2, 1) := by decide +kernel
theorem d_Lat_indexOf_23 : decode b_Lat_indexOf 23 = .ok (.iload_n 3, 1) := by decide +kernel
theorem d_Lat_indexOf_24 : decode b_Lat_indexOf 24 = .ok (.if_icmp .lt 5, 3) := by decide +kernel
theorem d_Lat_indexOf_27 : decode b_Lat_indexOf 27 = .ok (.iconst (-1), 1) := by decide +kernel
theorem d_Lat_indexOf_28 : decode b_Lat_indexOf 28 = .ok (.ireturn, 1) := by decide +kernel
theorem d_Lat_indexOf_29 : decode b_Lat_indexOf 29 = .ok (.aload_n 0, 1) := by decide +kernel
theorem d_Lat_indexOf_30 : decode b_Lat_indexOf 30 = .ok (.iload_n 1, 1) := by decide +kernel
theorem d_Lat_indexOf_31 : decode b_Lat_indexOf 31 = .ok (.iload_n 2, 1) := by decide +kernel
theorem d_Lat_indexOf_32 : decode b_Lat_indexOf 32 = .ok (.iload_n 3, 1) := by decide +kernel
theorem d_Lat_indexOf_33 : decode b_Lat_indexOf 33 = .ok (.invokestatic 95, 3) := by decide +kernel
theorem d_Lat_indexOf_36 : decode b_Lat_indexOf 36 = .ok (.ireturn, 1) := by decide +kernel
abbrev b_Lat_canEncode : ByteArray := prog_18_method_4_code
theorem d_Lat_canEncode_0 : decode b_Lat_canEncode 0 = .ok (.iload_n 0, 1) := by decide +kernel
theorem d_Lat_canEncode_1 : decode b_Lat_canEncode 1 = .ok (.ifCond .lt 14, 3) := by decide +kernel
theorem d_Lat_canEncode_4 : decode b_Lat_canEncode 4 = .ok (.iload_n 0, 1) := by decide +kernel
theorem d_Lat_canEncode_5 : decode b_Lat_canEncode 5 = .ok (.sipush 255, 3) := by decide +kernel
theorem d_Lat_canEncode_8 : decode b_Lat_canEncode 8 = .ok (.if_icmp .gt 7, 3) := by decide +kernel
theorem d_Lat_canEncode_11 : decode b_Lat_canEncode 11 = .ok (.iconst 1, 1) := by decide +kernel
theorem d_Lat_canEncode_12 : decode b_Lat_canEncode 12 = .ok (.goto 4, 3) := by decide +kernel
theorem d_Lat_canEncode_15 : decode b_Lat_canEncode 15 = .ok (.iconst 0, 1) := by decide +kernel
theorem d_Lat_canEncode_16 : decode b_Lat_canEncode 16 = .ok (.ireturn, 1) := by decide +kernel
abbrev b_Lat_indexOfChar : ByteArray := prog_18_method_23_code
theorem d_Lat_indexOfChar_0 : decode b_Lat_indexOfChar 0 = .ok (.iload_n 1, 1) := by decide +kernel
theorem d_Lat_indexOfChar_1 : decode b_Lat_indexOfChar 1 = .ok (.i2b, 1) := by decide +kernel
theorem d_Lat_indexOfChar_2 : decode b_Lat_indexOfChar 2 = .ok (.istore 4, 2) := by decide +kernel
theorem d_Lat_indexOfChar_4 : decode b_Lat_indexOfChar 4 = .ok (.iload_n 2, 1) := by decide +kernel
theorem d_Lat_indexOfChar_5 : decode b_Lat_indexOfChar 5 = .ok (.istore 5, 2) := by decide +kernel
theorem d_Lat_indexOfChar_7 : decode b_Lat_indexOfChar 7 = .ok (.iload 5, 2) := by decide +kernel
theorem d_Lat_indexOfChar_9 : decode b_Lat_indexOfChar 9 = .ok (.iload_n 3, 1) := by decide +kernel
theorem d_Lat_indexOfChar_10 : decode b_Lat_indexOfChar 10 = .ok (.if_icmp .ge 21, 3) := by decide +kernel
theorem d_Lat_indexOfChar_13 : decode b_Lat_indexOfChar 13 = .ok (.aload_n 0, 1) := by decide +kernel
theorem d_Lat_indexOfChar_14 : decode b_Lat_indexOfChar 14 = .ok (.iload 5, 2) := by decide +kernel
theorem d_Lat_indexOfChar_16 : decode b_Lat_indexOfChar 16 = .ok (.baload, 1) := by decide +kernel
theorem d_Lat_indexOfChar_17 : decode b_Lat_indexOfChar 17 = .ok (.iload 4, 2) := by decide +kernel
theorem d_Lat_indexOfChar_19 : decode b_Lat_indexOfChar 19 = .ok (.if_icmp .ne 6, 3) := by decide +kernel
theorem d_Lat_indexOfChar_22 : decode b_Lat_indexOfChar 22 = .ok (.iload 5, 2) := by decide +kernel
theorem d_Lat_indexOfChar_24 : decode b_Lat_indexOfChar 24 = .ok (.ireturn, 1) := by decide +kernel
theorem d_Lat_indexOfChar_25 : decode b_Lat_indexOfChar 25 = .ok (.iinc 5 1, 3) := by decide +kernel
theorem d_Lat_indexOfChar_28 : decode b_Lat_indexOfChar 28 = .ok (.goto (-21), 3) := by decide +kernel
theorem d_Lat_indexOfChar_31 : decode b_Lat_indexOfChar 31 = .ok (.iconst (-1), 1) := by decide +kernel
theorem d_Lat_indexOfChar_32 : decode b_Lat_indexOfChar 32 = .ok (.ireturn, 1) := by decide +kernel
theorem jC_ofF {l : Launch} {b : Nat} {D : va_G} {ta : Nat → ClassId} {ex : Prop} {y : MethodName} {cb : ByteArray} {mL : Nat} {ret : Option FieldType} {rm : Room} {as : List Value} {σ : List va_E} {r : Option Value} {σ' : List va_E}
    (hy : plainFor y = true) (hlen : (lg_sl as).length ≤ mL) {own : String} (ho : y.cls = own)
    (body : ∀ Γ : jG, jB l b D ta Γ own cb ret mL rm → jR b D ex Γ r σ' rm.cells rm.slots → jW l b D Γ ex 0 0 mL σ (lv_args 0 as) 0 []) : jC l b D ta ex y cb mL ret rm as σ r σ' := by
  subst ho
  refine va_MetF (cc := cb) (maxL := mL) (ret := ret) hy rfl ?_
  intro p e s m args below meth c s₁ B hml hv
  obtain ⟨rfl, hE, hP, hZ⟩ := hv
  have hts := atoms_spec (ws := Cond.code y cb mL ret :: jWS) B.pre
  have hl := lv_entry as (n := mL) hlen
  rw [lg_entry_eq]
  generalize (lg_sl as ++ List.replicate (mL - (lg_sl as).length) Slot.unset).toArray = ls at hl ⊢
  exact body (p, e, rm, s, m, as.toArray, below, meth, c, MQ below (jQ b D ex r σ') as.toArray s rm.cells rm.slots (fun q => b ≤ q))
    ⟨B.exec, B.bytes, B.returns, hml, findClass_of_methodNamed B.named, fun w h => hts w (List.mem_cons_of_mem _ h), hE, B.notSynchronized, rfl, rfl⟩ rfl ls s.heap [] hl hP va_S.rf hZ
section JM
variable {l : Launch} {b : Nat} {D : va_G} {ta : Nat → ClassId} {Γ : jG} {ex : Prop} {own : String} {cc : ByteArray} {ret : Option FieldType} {nL cs ss pc : Nat} {rm : Room} {σ : List va_E} {L : List (Nat × Value)} {rest : List Value}
theorem j_ldcw (B : jB l b D ta Γ own cc ret nL rm) {index : Nat} {v : Int32} (hc : Cond.constant own index v ∈ jWS) (hdg : decode cc pc = .ok (.ldc_w index, 3)) (kk : jW l b D Γ ex cs ss nL σ L (pc + 3) (.int v :: rest)) : jW l b D Γ ex cs ss nL σ L pc rest := fun ls H locs hl hP hS hZ => lv_ldcw B.1 B.2.1 B.2.2.2.2.1 (B.2.2.2.2.2.1 _ hc) hdg (kk ls H locs hl hP hS hZ)
theorem j_ldc (B : jB l b D ta Γ own cc ret nL rm) {index : Nat} {v : Int32} (hc : Cond.constant own index v ∈ jWS) (hdg : decode cc pc = .ok (.ldc index, 2)) (kk : jW l b D Γ ex cs ss nL σ L (pc + 2) (.int v :: rest)) : jW l b D Γ ex cs ss nL σ L pc rest := fun ls H locs hl hP hS hZ => lv_ldc B.1 B.2.1 B.2.2.2.2.1 (B.2.2.2.2.2.1 _ hc) hdg (kk ls H locs hl hP hS hZ)
theorem j_ldc2 (B : jB l b D ta Γ own cc ret nL rm) {index : Nat} {v : Int64} (hc : Cond.constantLong own index v ∈ jWS) (hdg : decode cc pc = .ok (.ldc2_w index, 3)) (kk : jW l b D Γ ex cs ss nL σ L (pc + 3) (.long v :: rest)) : jW l b D Γ ex cs ss nL σ L pc rest := fun ls H locs hl hP hS hZ => lv_ldc2 B.1 B.2.1 B.2.2.2.2.1 (B.2.2.2.2.2.1 _ hc) hdg (kk ls H locs hl hP hS hZ)
/-- the two static tables of steps, read by a nest mate -/
def jTab (f : Nat → Int32) (b : Nat) (Γ : jG) (t : Nat) : Prop := va_T .int t 4 (fun j => .int (f j)) (fun q => b ≤ q) Γ.2.2.2.1 Γ.2.2.2.1.heap
theorem j_colsN (B : jB l b D ta Γ own cc ret nL rm) {index : Nat} {host : String} (hlink : Cond.fieldLinkNest own index "WireField" "COLUMN_STEPS" "[I" host ∈ jNW) (hdg : decode cc pc = .ok (.getstatic index, 3)) (kk : ∀ t : Nat, jTab jcs b Γ t → jW l b D Γ ex cs ss nL σ L (pc + 3) (.ref t :: rest)) : jW l b D Γ ex cs ss nL σ L pc rest := by
  obtain ⟨t1, t2, h1, h2, h3, h4⟩ := B.2.2.2.2.2.2.1.2.2.1
  exact fun ls H locs hl hP hS hZ => va_getsN B.1 B.2.1 h1 hS B.2.2.2.2.1 (va_Nw.use (jNW_tab hlink) (B.2.2.2.2.2.2.1.2.1 _ hlink)) (fun x h => h) hdg (kk t1 h2 ls H locs hl hP hS hZ)
theorem j_rowsN (B : jB l b D ta Γ own cc ret nL rm) {index : Nat} {host : String} (hlink : Cond.fieldLinkNest own index "WireField" "ROW_STEPS" "[I" host ∈ jNW) (hdg : decode cc pc = .ok (.getstatic index, 3)) (kk : ∀ t : Nat, jTab jrs b Γ t → jW l b D Γ ex cs ss nL σ L (pc + 3) (.ref t :: rest)) : jW l b D Γ ex cs ss nL σ L pc rest := by
  obtain ⟨t1, t2, h1, h2, h3, h4⟩ := B.2.2.2.2.2.2.1.2.2.1
  exact fun ls H locs hl hP hS hZ => va_getsN B.1 B.2.1 h3 hS B.2.2.2.2.1 (va_Nw.use (jNW_tab hlink) (B.2.2.2.2.2.2.1.2.1 _ hlink)) (fun x h => h) hdg (kk t2 h4 ls H locs hl hP hS hZ)
theorem j_ti (B : jB l b D ta Γ own cc ret nL rm) {f : Nat → Int32} {t : Nat} (hT : jTab f b Γ t) {i : Int32} (hin : vp_in i 4) (hdg : decode cc pc = .ok (.iaload, 1)) (kk : jW l b D Γ ex cs ss nL σ L (pc + 1) (.int (f i.toNatClampNeg) :: rest)) : jW l b D Γ ex cs ss nL σ L pc (.int i :: .ref t :: rest) :=
  fun ls H locs hl hP hS hZ => va_ti B.1 B.2.1 hT hS hin rfl hdg (kk ls H locs hl hP hS hZ)
end JM
section JN
variable {l : Launch} {b : Nat} {D : va_G} {ta : Nat → ClassId} {Γ : jG} {ex : Prop} {own : String} {cc : ByteArray} {ret : Option FieldType} {nL cs ss pc : Nat} {rm : Room} {σ σ2 : List va_E} {L : List (Nat × Value)} {rest : List Value}
theorem jW.heap (h : σ = σ2) (k : jW l b D Γ ex cs ss nL σ2 L pc rest) : jW l b D Γ ex cs ss nL σ L pc rest := h ▸ k
/-- an array's place by a natural number; arrays here are short -/
def jSm (n : Nat) : Prop := n < 2 ^ 31
theorem j_cl {k n : Nat} (hk : k < n) (hn : n ≤ 2147483647) : (nI k).toNatClampNeg = k ∧ vp_in (nI k) n := ⟨nI_clamp (by omega), vp_in_nI hk (by omega)⟩
theorem j_ialdN (B : jB l b D ta Γ own cc ret nL rm) {q n t k : Nat} {f : Nat → Int32} (ht : (jT ta)[t]? = some (ta t, .int)) (hq : σ[q]? = some (.inl (ta t, n, .inl f))) (hk : k < n) (hdg : decode cc pc = .ok (.iaload, 1)) (kk : jW l b D Γ ex cs ss nL σ L (pc + 1) (.int (f k) :: rest)) (hn : n ≤ 2147483647 := by decide) : jW l b D Γ ex cs ss nL σ L pc (.int (nI k) :: .ref (b + q) :: rest) :=
  j_iald B ht hq (j_cl hk hn).2 hdg (by rw [(j_cl hk hn).1]; exact kk)
theorem j_zaldN (B : jB l b D ta Γ own cc ret nL rm) {q n t k : Nat} {f : Nat → Int32} (ht : (jT ta)[t]? = some (ta t, .boolean)) (hq : σ[q]? = some (.inl (ta t, n, .inl f))) (hk : k < n) (hdg : decode cc pc = .ok (.baload, 1)) (kk : jW l b D Γ ex cs ss nL σ L (pc + 1) (.int (f k) :: rest)) (hn : n ≤ 2147483647 := by decide) : jW l b D Γ ex cs ss nL σ L pc (.int (nI k) :: .ref (b + q) :: rest) :=
  j_zald B ht hq (j_cl hk hn).2 hdg (by rw [(j_cl hk hn).1]; exact kk)
theorem j_caldN (B : jB l b D ta Γ own cc ret nL rm) {q n t k : Nat} {f : Nat → Int32} (ht : (jT ta)[t]? = some (ta t, .char)) (hq : σ[q]? = some (.inl (ta t, n, .inl f))) (hk : k < n) (hdg : decode cc pc = .ok (.caload, 1)) (kk : jW l b D Γ ex cs ss nL σ L (pc + 1) (.int (f k) :: rest)) (hn : n ≤ 2147483647 := by decide) : jW l b D Γ ex cs ss nL σ L pc (.int (nI k) :: .ref (b + q) :: rest) :=
  j_cald B ht hq (j_cl hk hn).2 hdg (by rw [(j_cl hk hn).1]; exact kk)
theorem j_laldN (B : jB l b D ta Γ own cc ret nL rm) {q n t k : Nat} {f : Nat → Int64} (ht : (jT ta)[t]? = some (ta t, .long)) (hq : σ[q]? = some (.inl (ta t, n, .inr (.inl f)))) (hk : k < n) (hdg : decode cc pc = .ok (.laload, 1)) (kk : jW l b D Γ ex cs ss nL σ L (pc + 1) (.long (f k) :: rest)) (hn : n ≤ 2147483647 := by decide) : jW l b D Γ ex cs ss nL σ L pc (.int (nI k) :: .ref (b + q) :: rest) :=
  j_lald B ht hq (j_cl hk hn).2 hdg (by rw [(j_cl hk hn).1]; exact kk)
theorem j_iastN (B : jB l b D ta Γ own cc ret nL rm) (hex : ¬ ex) {q n t k : Nat} {f : Nat → Int32} {x : Int32} (ht : (jT ta)[t]? = some (ta t, .int)) (hq : σ[q]? = some (.inl (ta t, n, .inl f))) (hk : k < n) (hdg : decode cc pc = .ok (.iastore, 1)) (kk : jW l b D Γ ex cs ss nL (σ.set q (.inl (ta t, n, .inl (upd f k x)))) L (pc + 1) rest) (hn : n ≤ 2147483647 := by decide) : jW l b D Γ ex cs ss nL σ L pc (.int x :: .int (nI k) :: .ref (b + q) :: rest) :=
  j_iast B hex ht hq (j_cl hk hn).2 hdg (by rw [(j_cl hk hn).1]; exact kk)
theorem j_zastN (B : jB l b D ta Γ own cc ret nL rm) (hex : ¬ ex) {q n t k : Nat} {f : Nat → Int32} {x : Int32} (ht : (jT ta)[t]? = some (ta t, .boolean)) (hq : σ[q]? = some (.inl (ta t, n, .inl f))) (hk : k < n) (hdg : decode cc pc = .ok (.bastore, 1)) (kk : jW l b D Γ ex cs ss nL (σ.set q (.inl (ta t, n, .inl (upd f k (vp_nar .boolean x))))) L (pc + 1) rest) (hn : n ≤ 2147483647 := by decide) : jW l b D Γ ex cs ss nL σ L pc (.int x :: .int (nI k) :: .ref (b + q) :: rest) :=
  j_zast B hex ht hq (j_cl hk hn).2 hdg (by rw [(j_cl hk hn).1]; exact kk)
theorem j_castN (B : jB l b D ta Γ own cc ret nL rm) (hex : ¬ ex) {q n t k : Nat} {f : Nat → Int32} {x : Int32} (ht : (jT ta)[t]? = some (ta t, .char)) (hq : σ[q]? = some (.inl (ta t, n, .inl f))) (hk : k < n) (hdg : decode cc pc = .ok (.castore, 1)) (kk : jW l b D Γ ex cs ss nL (σ.set q (.inl (ta t, n, .inl (upd f k (vp_nar .char x))))) L (pc + 1) rest) (hn : n ≤ 2147483647 := by decide) : jW l b D Γ ex cs ss nL σ L pc (.int x :: .int (nI k) :: .ref (b + q) :: rest) :=
  j_cast B hex ht hq (j_cl hk hn).2 hdg (by rw [(j_cl hk hn).1]; exact kk)
theorem j_lastN (B : jB l b D ta Γ own cc ret nL rm) (hex : ¬ ex) {q n t k : Nat} {f : Nat → Int64} {x : Int64} (ht : (jT ta)[t]? = some (ta t, .long)) (hq : σ[q]? = some (.inl (ta t, n, .inr (.inl f)))) (hk : k < n) (hdg : decode cc pc = .ok (.lastore, 1)) (kk : jW l b D Γ ex cs ss nL (σ.set q (.inl (ta t, n, .inr (.inl (vp_updL f k x))))) L (pc + 1) rest) (hn : n ≤ 2147483647 := by decide) : jW l b D Γ ex cs ss nL σ L pc (.long x :: .int (nI k) :: .ref (b + q) :: rest) :=
  j_last B hex ht hq (j_cl hk hn).2 hdg (by rw [(j_cl hk hn).1]; exact kk)
end JN
section KE
variable {l : Launch} {b : Nat} {D : va_G} {ta : Nat → ClassId} {Γ : jG} {ex : Prop} {own : String} {cc : ByteArray} {ret : Option FieldType} {nL cs ss pc : Nat} {rm : Room} {σ : List va_E} {L : List (Nat × Value)} {rest : List Value} {x y v : Int32}
theorem j_iaddE (B : jB l b D ta Γ own cc ret nL rm) (hv : x + y = v) (hd : decode cc pc = .ok (.iadd, 1)) (kk : jW l b D Γ ex cs ss nL σ L (pc + 1) (.int v :: rest)) : jW l b D Γ ex cs ss nL σ L pc (.int y :: .int x :: rest) := by subst hv; exact j_iadd B hd kk
theorem j_isubE (B : jB l b D ta Γ own cc ret nL rm) (hv : x - y = v) (hd : decode cc pc = .ok (.isub, 1)) (kk : jW l b D Γ ex cs ss nL σ L (pc + 1) (.int v :: rest)) : jW l b D Γ ex cs ss nL σ L pc (.int y :: .int x :: rest) := by subst hv; exact j_isub B hd kk
theorem j_imulE (B : jB l b D ta Γ own cc ret nL rm) (hv : x * y = v) (hd : decode cc pc = .ok (.imul, 1)) (kk : jW l b D Γ ex cs ss nL σ L (pc + 1) (.int v :: rest)) : jW l b D Γ ex cs ss nL σ L pc (.int y :: .int x :: rest) := by subst hv; exact j_imul B hd kk
theorem j_iandE (B : jB l b D ta Γ own cc ret nL rm) (hv : x &&& y = v) (hd : decode cc pc = .ok (.iand, 1)) (kk : jW l b D Γ ex cs ss nL σ L (pc + 1) (.int v :: rest)) : jW l b D Γ ex cs ss nL σ L pc (.int y :: .int x :: rest) := by subst hv; exact j_iand B hd kk
end KE
section JQ
variable {l : Launch} {b : Nat} {D : va_G} {ta : Nat → ClassId} {Γ : jG} {ex : Prop} {own : String} {cc : ByteArray} {ret : Option FieldType} {nL cs ss pc : Nat} {rm : Room} {σ : List va_E} {L : List (Nat × Value)} {rest : List Value}
/-- the constant text of the orders of one sign, at the entry of this frame -/
def jSt (b : Nat) (Γ : jG) (aK aV : Nat) : Prop := jStr b aK aV Γ.2.2.2.1 Γ.2.2.2.1.heap
theorem j_ldcOrd (B : jB l b D ta Γ "WireField$Text" cc ret nL rm) (hdg : decode cc pc = .ok (.ldc 51, 2)) (kk : ∀ aK aV : Nat, jSt b Γ aK aV → jW l b D Γ ex cs ss nL σ L (pc + 2) (.ref aK :: rest)) : jW l b D Γ ex cs ss nL σ L pc rest := by
  obtain ⟨aK, aV, h1, h2⟩ := B.2.2.2.2.2.2.1.2.2.2.1
  exact fun ls H locs hl hP hS hZ => va_ldcS B.1 B.2.1 B.2.2.2.2.1 h1 hdg (kk aK aV h2 ls H locs hl hP hS hZ)
theorem j_strCoder (B : jB l b D ta Γ "java/lang/String" cc ret nL rm) {aK aV : Nat} (hT : jSt b Γ aK aV) (hlink : Cond.fieldLink "java/lang/String" 15 "java/lang/String" "coder" "B" ∈ jWS) (hdg : decode cc pc = .ok (.getfield 15, 3)) (kk : jW l b D Γ ex cs ss nL σ L (pc + 3) (.int 0 :: rest)) : jW l b D Γ ex cs ss nL σ L pc (.ref aK :: rest) :=
  fun ls H locs hl hP hS hZ => vk_getf B.1 B.2.1 hT.2.1 hS B.2.2.2.2.1 (B.2.2.2.2.2.1 _ hlink) (fun x h => h) hdg (kk ls H locs hl hP hS hZ)
theorem j_strValue (B : jB l b D ta Γ "java/lang/String" cc ret nL rm) {aK aV : Nat} (hT : jSt b Γ aK aV) (hlink : Cond.fieldLink "java/lang/String" 9 "java/lang/String" "value" "[B" ∈ jWS) (hdg : decode cc pc = .ok (.getfield 9, 3)) (kk : jW l b D Γ ex cs ss nL σ L (pc + 3) (.ref aV :: rest)) : jW l b D Γ ex cs ss nL σ L pc (.ref aK :: rest) :=
  fun ls H locs hl hP hS hZ => vk_getf B.1 B.2.1 hT.2.2.1 hS B.2.2.2.2.1 (B.2.2.2.2.2.1 _ hlink) (fun x h => h) hdg (kk ls H locs hl hP hS hZ)
theorem j_strCompact (B : jB l b D ta Γ "java/lang/String" cc ret nL rm) {aK aV : Nat} (hT : jSt b Γ aK aV) (hlink : Cond.fieldLink "java/lang/String" 38 "java/lang/String" "COMPACT_STRINGS" "Z" ∈ jWS) (hdg : decode cc pc = .ok (.getstatic 38, 3)) (kk : jW l b D Γ ex cs ss nL σ L (pc + 3) (.int 1 :: rest)) : jW l b D Γ ex cs ss nL σ L pc rest :=
  fun ls H locs hl hP hS hZ => va_gets B.1 B.2.1 hT.2.2.2.2 hS B.2.2.2.2.1 (B.2.2.2.2.2.1 _ hlink) (fun x h => h) hdg (kk ls H locs hl hP hS hZ)
theorem j_strLen (B : jB l b D ta Γ own cc ret nL rm) {aK aV : Nat} (hT : jSt b Γ aK aV) (hdg : decode cc pc = .ok (.arraylength, 1)) (kk : jW l b D Γ ex cs ss nL σ L (pc + 1) (.int 9 :: rest)) : jW l b D Γ ex cs ss nL σ L pc (.ref aV :: rest) :=
  fun ls H locs hl hP hS hZ => va_tlen B.1 B.2.1 hT.2.2.2.1 hS (by decide) hdg (kk ls H locs hl hP hS hZ)
theorem j_strByte (B : jB l b D ta Γ own cc ret nL rm) {aK aV k : Nat} (hT : jSt b Γ aK aV) (hk : k < 9) (hdg : decode cc pc = .ok (.baload, 1)) (kk : jW l b D Γ ex cs ss nL σ L (pc + 1) (.int (jord k) :: rest)) : jW l b D Γ ex cs ss nL σ L pc (.int (nI k) :: .ref aV :: rest) :=
  fun ls H locs hl hP hS hZ => va_tb B.1 B.2.1 hT.2.2.2.1 hS (j_cl hk (by decide)).2 (by rw [(j_cl hk (by decide)).1]) hdg (kk ls H locs hl hP hS hZ)
end JQ
end
section
/-! small words -/
def bI (x : Bool) : Int32 := if x = true then 1 else 0
theorem bI_t {x : Bool} (h : ¬ bI x = 0) : x = true := by
  cases x
  · exact absurd rfl h
  · rfl
theorem bI_f {x : Bool} (h : bI x = 0) : x = false := by
  cases x
  · rfl
  · exact absurd h (by decide)
theorem bF {x : Bool} (h : x = false) : ¬ x = true := by rw [h]; decide
theorem bI_nar (x : Bool) : narrow .boolean (.int (bI x)) = .int (bI x) := by cases x <;> rfl
theorem bI_fit (x : Bool) : fits .boolean (.int (bI x)) = true := by cases x <;> rfl
abbrev rL (d : Nat) : Room := { frames := d, cells := 0, slots := 0, locals := 40 * d }
theorem jset {α : Type} {σ : List α} {k : Nat} {e : α} (h : σ[k]? = some e) : σ.set k e = σ := by
  apply List.ext_getElem?
  intro i
  by_cases hi : k = i
  · subst hi; rw [js h, h]
  · rw [List.getElem?_set_ne hi]
theorem jloop {P : Nat → Prop} (h : ∀ n, (∀ m, m < n → P m) → P n) : ∀ n, P n := fun n => Nat.strongRecOn n h
theorem lp_ge {k n : Nat} (hn : n < 2 ^ 31) (hk : k ≤ n) (h : nI n ≤ nI k) : k = n := by
  have := (nI_leI hn (by omega)).mp h
  omega
theorem lp_lt {k n : Nat} (hn : n < 2 ^ 31) (hk : k ≤ n) (h : ¬ nI n ≤ nI k) : k < n := by
  rcases Nat.lt_or_ge k n with h1 | h1
  · exact h1
  · exact absurd (nI_le h1 (by omega)) h
section KC
variable {l : Launch} {b : Nat} {D : va_G} {ta : Nat → ClassId} {Γ : jG} {own : String} {cc : ByteArray} {ret : Option FieldType} {nL pc d d' : Nat} {σ : List va_E} {L : List (Nat × Value)} {rest : List Value}
variable {y : MethodName} {cb : ByteArray} {mL : Nat} {ret' : Option FieldType} {as : List Value} {r : Option Value} {σ' : List va_E} {st0 st1 : List Value} {n index q : Nat} {host : String}
theorem k_room (h : d' < d) (hm : mL ≤ 21) : (rL d').frames + 1 ≤ (rL d).frames ∧ 8 + (mL + 11) + (rL d').locals ≤ (rL d).locals := ⟨h, by show 8 + (mL + 11) + 40 * d' ≤ 40 * d; omega⟩
theorem k_callS (B : jB l b D ta Γ own cc ret nL (rL d)) (hM : jC l b D ta False y cb mL ret' (rL d') as σ r σ') (hY : jY y cb mL ret' n) (hlink : Cond.methodLink own index y ∈ jWS) (hst : Cond.static y ∈ jWS) (hn : as.length = n) (hd : d' < d) (hm : mL ≤ 21) (hs0 : st0 = as.reverse ++ rest) (hs1 : r.toList ++ rest = st1) (hsum : (rest.map fun v => v.category).sum ≤ 8)
    (hdg : decode cc pc = .ok (.invokestatic index, 3)) (kk : jW l b D Γ False 0 0 nL σ' L (pc + 3) st1) : jW l b D Γ False 0 0 nL σ L pc st0 := j_callS B hM hY hlink hst hn (k_room hd hm) ⟨Nat.le_refl _, Nat.le_refl _⟩ hs0 hs1 hsum hdg kk
theorem k_callSN (B : jB l b D ta Γ own cc ret nL (rL d)) (hM : jC l b D ta False y cb mL ret' (rL d') as σ r σ') (hY : jY y cb mL ret' n) (hlink : Cond.methodLinkNest own index y host ∈ jNW) (hst : Cond.static y ∈ jWS) (hn : as.length = n) (hd : d' < d) (hm : mL ≤ 21) (hs0 : st0 = as.reverse ++ rest) (hs1 : r.toList ++ rest = st1) (hsum : (rest.map fun v => v.category).sum ≤ 8)
    (hdg : decode cc pc = .ok (.invokestatic index, 3)) (kk : jW l b D Γ False 0 0 nL σ' L (pc + 3) st1) : jW l b D Γ False 0 0 nL σ L pc st0 := j_callSN B hM hY hlink hst hn (k_room hd hm) ⟨Nat.le_refl _, Nat.le_refl _⟩ hs0 hs1 hsum hdg kk
theorem k_callV {C : String} {T : u_T} {N ci : Nat} {fs : List Value} (B : jB l b D ta Γ own cc ret nL (rL d)) (hM : jC l b D ta False y cb mL ret' (rL d') (.ref (b + q) :: as) σ r σ') (hY : jY y cb mL ret' n) (hlink : Cond.methodLink own index y ∈ jWS) (hin : Cond.instanceMethod y ∈ jWS) (hse : Cond.selects C y y ∈ jWS) (hcl : vwCl[ci]? = some (C, T, N)) (hq : σ[q]? = some (.inr (ci, fs))) (hn : as.length = n) (hd : d' < d) (hm : mL ≤ 21) (hs0 : st0 = as.reverse ++ .ref (b + q) :: rest) (hs1 : r.toList ++ rest = st1) (hsum : (rest.map fun v => v.category).sum ≤ 8)
    (hdg : decode cc pc = .ok (.invokevirtual index, 3)) (kk : jW l b D Γ False 0 0 nL σ' L (pc + 3) st1) : jW l b D Γ False 0 0 nL σ L pc st0 := j_callV B hM hY hlink hin hse hcl hq hn (k_room hd hm) ⟨Nat.le_refl _, Nat.le_refl _⟩ hs0 hs1 hsum hdg kk
theorem k_callVN {C : String} {T : u_T} {N ci : Nat} {fs : List Value} (B : jB l b D ta Γ own cc ret nL (rL d)) (hM : jC l b D ta False y cb mL ret' (rL d') (.ref (b + q) :: as) σ r σ') (hY : jY y cb mL ret' n) (hlink : Cond.methodLinkNest own index y host ∈ jNW) (hin : Cond.instanceMethod y ∈ jWS) (hse : Cond.selects C y y ∈ jWS) (hcl : vwCl[ci]? = some (C, T, N)) (hq : σ[q]? = some (.inr (ci, fs))) (hn : as.length = n) (hd : d' < d) (hm : mL ≤ 21) (hs0 : st0 = as.reverse ++ .ref (b + q) :: rest) (hs1 : r.toList ++ rest = st1) (hsum : (rest.map fun v => v.category).sum ≤ 8)
    (hdg : decode cc pc = .ok (.invokevirtual index, 3)) (kk : jW l b D Γ False 0 0 nL σ' L (pc + 3) st1) : jW l b D Γ False 0 0 nL σ L pc st0 := j_callVN B hM hY hlink hin hse hcl hq hn (k_room hd hm) ⟨Nat.le_refl _, Nat.le_refl _⟩ hs0 hs1 hsum hdg kk
/-- arraycopy of a whole prefix -/
theorem k_copy (B : jB l b D ta Γ own cc ret nL (rL d)) {q q1 t m : Nat} {f g f' : Nat → Int32} {ty : FieldType} {k : Int32} (hlink : Cond.methodLink own index arraycopyName ∈ jWS) (hnat : Cond.native arraycopyName ∈ jWS) (hstat : Cond.static arraycopyName ∈ jWS) (hini : Cond.initialized "java/lang/System" ∈ jWS)
    (ht : (jT ta)[t]? = some (ta t, ty)) (hprim : refKind ty = false) (hq : σ[q]? = some (.inl (ta t, m, .inl f))) (hq1 : σ[q1]? = some (.inl (ta t, m, .inl g))) (hk : ¬ k < 0 ∧ k.toNatClampNeg = m) (hfit : ∀ i, i < m → fits ty (.int (f i)) = true) (hd0 : 1 ≤ d) (hr : (rest.map fun v => v.category).sum ≤ 8) (hf : va_cpy f g 0 0 m = f') (hdg : decode cc pc = .ok (.invokestatic index, 3))
    (kk : jW l b D Γ False 0 0 nL (σ.set q1 (.inl (ta t, m, .inl f'))) L (pc + 3) rest) : jW l b D Γ False 0 0 nL σ L pc (.int k :: .int 0 :: .ref (b + q1) :: .int 0 :: .ref (b + q) :: rest) := by
  refine j_copyi B (fun h => h) hlink hnat hstat hini ht hprim hq hq1 (by decide) (by decide) hk.1 ?_ ?_ ?_ hd0 ?_ hdg ?_
  · show 0 + k.toNatClampNeg ≤ m; omega
  · show 0 + k.toNatClampNeg ≤ m; omega
  · intro i hi; rw [hk.2] at hi; show fits ty (.int (f (0 + i))) = true; rw [Nat.zero_add]; exact hfit i hi
  · have : nativeFrameWords "java/lang/System" "arraycopy" 5 + 11 ≤ 32 := by decide +kernel
    show _ ≤ 40 * d
    omega
  · rw [hk.2]
    show jW l b D Γ False 0 0 nL (σ.set q1 (.inl (ta t, m, .inl (va_cpy f g 0 0 m)))) L (pc + 3) rest
    rw [hf]
    exact kk
end KC
def inF (c r : Int32) : Bool := decide (¬ c < 0 ∧ ¬ 32 ≤ c ∧ ¬ r < 0 ∧ ¬ 24 ≤ r)
theorem inF_in {c r : Int32} (h : inF c r = true) : vp_in r 24 := by
  have h1 := of_decide_eq_true h
  have h2 := h1.2.2.1
  have h3 := h1.2.2.2
  rw [Int32.lt_iff_toInt_lt] at h2
  rw [Int32.le_iff_toInt_le] at h3
  refine vp_in_iff.mpr ⟨?_, ?_⟩
  · have : (0 : Int32).toInt = 0 := by decide
    omega
  · have : (24 : Int32).toInt = 24 := by decide
    omega
def tb (x c : Int32) : Bool := decide ((x.toUInt32 >>> (c.toUInt32 &&& Int32.toUInt32 31)).toInt32 &&& 1 = 1)
/-- the value of a cell -/
def fVal (F0 F1 F2 : Nat → Int32) (c r : Int32) : Int32 := if inF c r = true then (if tb (F0 r.toNatClampNeg) c = true then 1 else if tb (F1 r.toNatClampNeg) c = true then 2 else if tb (F2 r.toNatClampNeg) c = true then 3 else 0) else -1
/-- one of the three rows of bits behind a cell's setting -/
def pB (F : Nat → Int32) (c r v k : Int32) : Nat → Int32 := if inF c r = true then upd F r.toNatClampNeg (if v = k then F r.toNatClampNeg ||| (1 <<< (c &&& 31)) else F r.toNatClampNeg &&& ((1 <<< (c &&& 31)) ^^^ (-1))) else F
/-- an array's picture: nothing beyond its length -/
def Z24 (f : Nat → Int32) : Prop := ∀ k, 24 ≤ k → f k = 0
theorem z24 {f g : Nat → Int32} (hf : Z24 f) (hg : Z24 g) : va_cpy f g 0 0 24 = f := by
  funext k
  rcases Nat.lt_or_ge k 24 with h | h
  · rw [pk_cpy_in (Nat.zero_le _) (by omega)]; congr 1; omega
  · rw [pk_cpy_out (by omega), hf k h, hg k h]
end
section
set_option maxRecDepth 100000 in
set_option maxHeartbeats 4000000 in
theorem c_WF_isWithin {l : Launch} {b : Nat} {D : va_G} {ta : Nat → ClassId} {σ : List va_E} (c r : Int32) : jC l b D ta False y_WF_isWithin b_WF_isWithin 2 (some .boolean) (rL 0) [.int c, .int r] (σ) (some (.int (bI (inF c r)))) (σ) := by
  refine jC_of (own := "WireField") (by decide +kernel) (Nat.le_of_ble_eq_true rfl) rfl (fun Γ B K => ?_)
  change jW l b D Γ False 0 0 2 (σ) [(0, .int c), (1, .int r)] 0 []
  refine j_iload_n B d_WF_isWithin_0 rfl 0 rfl ?_
  refine j_if_lt B d_WF_isWithin_1 rfl (fun h1 => ?_) (fun h1 => ?_)
  · -- 1 jump
    refine j_iconst (v := 0) B d_WF_isWithin_24 (by decide) ?_
    exact j_zret B K (by decide) (by simp [bI, inF, h1]) rfl d_WF_isWithin_25
  · -- 1 on
    refine j_iload_n B d_WF_isWithin_4 rfl 0 rfl ?_
    refine j_bipush (v := 32) B d_WF_isWithin_5 (by decide) ?_
    refine j_icmp_ge B d_WF_isWithin_7 rfl (fun h7 => ?_) (fun h7 => ?_)
    · -- 7 jump
      refine j_iconst (v := 0) B d_WF_isWithin_24 (by decide) ?_
      exact j_zret B K (by decide) (by simp [bI, inF, h1, h7]) rfl d_WF_isWithin_25
    · -- 7 on
      refine j_iload_n B d_WF_isWithin_10 rfl 1 rfl ?_
      refine j_if_lt B d_WF_isWithin_11 rfl (fun h11 => ?_) (fun h11 => ?_)
      · -- 11 jump
        refine j_iconst (v := 0) B d_WF_isWithin_24 (by decide) ?_
        exact j_zret B K (by decide) (by simp [bI, inF, h1, h7, h11]) rfl d_WF_isWithin_25
      · -- 11 on
        refine j_iload_n B d_WF_isWithin_14 rfl 1 rfl ?_
        refine j_bipush (v := 24) B d_WF_isWithin_15 (by decide) ?_
        refine j_icmp_ge B d_WF_isWithin_17 rfl (fun h17 => ?_) (fun h17 => ?_)
        · -- 17 jump
          refine j_iconst (v := 0) B d_WF_isWithin_24 (by decide) ?_
          exact j_zret B K (by decide) (by simp [bI, inF, h1, h7, h11, h17]) rfl d_WF_isWithin_25
        · -- 17 on
          refine j_iconst (v := 1) B d_WF_isWithin_20 (by decide) ?_
          refine j_goto B d_WF_isWithin_21 rfl ?_
          exact j_zret B K (by decide) (by simp [bI, inF, h1, h7, h11, h17]) rfl d_WF_isWithin_25
set_option maxRecDepth 100000 in
set_option maxHeartbeats 4000000 in
theorem c_G_valueAt {l : Launch} {b : Nat} {D : va_G} {ta : Nat → ClassId} {σ : List va_E} {g h t w : Nat} {F0 F1 F2 : Nat → Int32} (hg : σ[g]? = some (.inr (0, [.ref (b + h), .ref (b + t), .ref (b + w)]))) (hh : σ[h]? = some (.inl (ta 0, 24, .inl F0))) (ht : σ[t]? = some (.inl (ta 0, 24, .inl F1))) (hw : σ[w]? = some (.inl (ta 0, 24, .inl F2))) (c r : Int32) : jC l b D ta False y_G_valueAt b_G_valueAt 3 (some .int) (rL 1) [.ref (b + g), .int c, .int r] (σ) (some (.int (fVal F0 F1 F2 c r))) (σ) := by
  refine jC_of (own := "WireField$Grid") (by decide +kernel) (Nat.le_of_ble_eq_true rfl) rfl (fun Γ B K => ?_)
  change jW l b D Γ False 0 0 3 (σ) [(0, .ref (b + g)), (1, .int c), (2, .int r)] 0 []
  refine j_iload_n B d_G_valueAt_0 rfl 1 rfl ?_
  refine j_iload_n B d_G_valueAt_1 rfl 2 rfl ?_
  refine k_callSN (as := [.int c, .int r]) (rest := []) (st1 := [.int (bI (inF c r))]) B (c_WF_isWithin c r) yf_WF_isWithin w_233 w_227 rfl (by decide) (by decide) rfl rfl (Nat.le_of_ble_eq_true rfl) d_G_valueAt_2 ?_
  refine j_if_ne B d_G_valueAt_5 rfl (fun h5 => ?_) (fun h5 => ?_)
  · -- 5 jump
    replace h5 := bI_t h5
    refine j_aload_n B d_G_valueAt_10 rfl 0 rfl ?_
    refine gf_G_9 B hg rfl d_G_valueAt_11 ?_
    refine j_iload_n B d_G_valueAt_14 rfl 2 rfl ?_
    refine j_iald B rfl hh (inF_in h5) d_G_valueAt_15 ?_
    refine j_iload_n B d_G_valueAt_16 rfl 1 rfl ?_
    refine j_iushr B d_G_valueAt_17 rfl ?_
    refine j_iconst (v := 1) B d_G_valueAt_18 (by decide) ?_
    refine j_iand B d_G_valueAt_19 ?_
    refine j_iconst (v := 1) B d_G_valueAt_20 (by decide) ?_
    refine j_icmp_ne B d_G_valueAt_21 rfl (fun h21 => ?_) (fun h21 => ?_)
    · -- 21 jump
      refine j_aload_n B d_G_valueAt_26 rfl 0 rfl ?_
      refine gf_G_15 B hg rfl d_G_valueAt_27 ?_
      refine j_iload_n B d_G_valueAt_30 rfl 2 rfl ?_
      refine j_iald B rfl ht (inF_in h5) d_G_valueAt_31 ?_
      refine j_iload_n B d_G_valueAt_32 rfl 1 rfl ?_
      refine j_iushr B d_G_valueAt_33 rfl ?_
      refine j_iconst (v := 1) B d_G_valueAt_34 (by decide) ?_
      refine j_iand B d_G_valueAt_35 ?_
      refine j_iconst (v := 1) B d_G_valueAt_36 (by decide) ?_
      refine j_icmp_ne B d_G_valueAt_37 rfl (fun h37 => ?_) (fun h37 => ?_)
      · -- 37 jump
        refine j_aload_n B d_G_valueAt_42 rfl 0 rfl ?_
        refine gf_G_18 B hg rfl d_G_valueAt_43 ?_
        refine j_iload_n B d_G_valueAt_46 rfl 2 rfl ?_
        refine j_iald B rfl hw (inF_in h5) d_G_valueAt_47 ?_
        refine j_iload_n B d_G_valueAt_48 rfl 1 rfl ?_
        refine j_iushr B d_G_valueAt_49 rfl ?_
        refine j_iconst (v := 1) B d_G_valueAt_50 (by decide) ?_
        refine j_iand B d_G_valueAt_51 ?_
        refine j_iconst (v := 1) B d_G_valueAt_52 (by decide) ?_
        refine j_icmp_ne B d_G_valueAt_53 rfl (fun h53 => ?_) (fun h53 => ?_)
        · -- 53 jump
          refine j_iconst (v := 0) B d_G_valueAt_60 (by decide) ?_
          exact j_iret B K (by simp [fVal, tb, h5, h21, h37, h53]) rfl d_G_valueAt_61
        · -- 53 on
          refine j_iconst (v := 3) B d_G_valueAt_56 (by decide) ?_
          refine j_goto B d_G_valueAt_57 rfl ?_
          exact j_iret B K (by simp [fVal, tb, h5, h21, h37, h53]) rfl d_G_valueAt_61
      · -- 37 on
        refine j_iconst (v := 2) B d_G_valueAt_40 (by decide) ?_
        exact j_iret B K (by simp [fVal, tb, h5, h21, h37]) rfl d_G_valueAt_41
    · -- 21 on
      refine j_iconst (v := 1) B d_G_valueAt_24 (by decide) ?_
      exact j_iret B K (by simp [fVal, tb, h5, h21]) rfl d_G_valueAt_25
  · -- 5 on
    replace h5 := bI_f h5
    refine j_iconst (v := (-1)) B d_G_valueAt_8 (by decide) ?_
    exact j_iret B K (by simp [fVal, tb, h5]) rfl d_G_valueAt_9
set_option maxRecDepth 100000 in
set_option maxHeartbeats 4000000 in
theorem c_G_put {l : Launch} {b : Nat} {D : va_G} {ta : Nat → ClassId} {σ : List va_E} {g h t w : Nat} {F0 F1 F2 : Nat → Int32} (hg : σ[g]? = some (.inr (0, [.ref (b + h), .ref (b + t), .ref (b + w)]))) (hh : σ[h]? = some (.inl (ta 0, 24, .inl F0))) (ht : σ[t]? = some (.inl (ta 0, 24, .inl F1))) (hw : σ[w]? = some (.inl (ta 0, 24, .inl F2))) (nht : h ≠ t) (nhw : h ≠ w) (ntw : t ≠ w) (ngh : g ≠ h) (ngt : g ≠ t) (ngw : g ≠ w) (c r v : Int32) : jC l b D ta False y_G_put b_G_put 5 none (rL 1) [.ref (b + g), .int c, .int r, .int v] (σ) none (((σ.set h (.inl (ta 0, 24, .inl (pB F0 c r v 1)))).set t (.inl (ta 0, 24, .inl (pB F1 c r v 2)))).set w (.inl (ta 0, 24, .inl (pB F2 c r v 3)))) := by
  refine jC_of (own := "WireField$Grid") (by decide +kernel) (Nat.le_of_ble_eq_true rfl) rfl (fun Γ B K => ?_)
  change jW l b D Γ False 0 0 5 (σ) [(0, .ref (b + g)), (1, .int c), (2, .int r), (3, .int v)] 0 []
  refine j_iload_n B d_G_put_0 rfl 1 rfl ?_
  refine j_iload_n B d_G_put_1 rfl 2 rfl ?_
  refine k_callSN (as := [.int c, .int r]) (rest := []) (st1 := [.int (bI (inF c r))]) B (c_WF_isWithin c r) yf_WF_isWithin w_233 w_227 rfl (by decide) (by decide) rfl rfl (Nat.le_of_ble_eq_true rfl) d_G_put_2 ?_
  refine j_if_ne B d_G_put_5 rfl (fun h5 => ?_) (fun h5 => ?_)
  · -- 5 jump
    replace h5 := bI_t h5
    refine j_iconst (v := 1) B d_G_put_9 (by decide) ?_
    refine j_iload_n B d_G_put_10 rfl 1 rfl ?_
    refine j_ishl B d_G_put_11 ?_
    refine j_istore (L' := [(0, .ref (b + g)), (1, .int c), (2, .int r), (3, .int v), (4, .int (1 <<< (c &&& 31)))]) B d_G_put_12 (by decide) [1, 2, 3, 4, 0] rfl ?_
    refine j_aload_n B d_G_put_14 rfl 0 rfl ?_
    refine gf_G_9 B hg rfl d_G_put_15 ?_
    refine j_iload_n B d_G_put_18 rfl 2 rfl ?_
    refine j_iload_n B d_G_put_19 rfl 3 rfl ?_
    refine j_iconst (v := 1) B d_G_put_20 (by decide) ?_
    have j47 : ∀ x1 : Int32, x1 = (if v = 1 then (F0 r.toNatClampNeg) ||| (1 <<< (c &&& 31)) else (F0 r.toNatClampNeg) &&& ((1 <<< (c &&& 31)) ^^^ (-1))) → jW l b D Γ False 0 0 5 (σ) [(0, .ref (b + g)), (1, .int c), (2, .int r), (3, .int v), (4, .int (1 <<< (c &&& 31)))] 47 [.int x1, .int r, .ref (b + h)] := by
      intro x1 e_x1
      refine j_iast B not_false rfl hh (inF_in h5) d_G_put_47 ?_
      refine j_aload_n B d_G_put_48 rfl 0 rfl ?_
      refine gf_G_15 B (jn ngh.symm hg) rfl d_G_put_49 ?_
      refine j_iload_n B d_G_put_52 rfl 2 rfl ?_
      refine j_iload_n B d_G_put_53 rfl 3 rfl ?_
      refine j_iconst (v := 2) B d_G_put_54 (by decide) ?_
      have j81 : ∀ x2 : Int32, x2 = (if v = 2 then (F1 r.toNatClampNeg) ||| (1 <<< (c &&& 31)) else (F1 r.toNatClampNeg) &&& ((1 <<< (c &&& 31)) ^^^ (-1))) → jW l b D Γ False 0 0 5 (σ.set h (.inl (ta 0, 24, .inl (upd F0 r.toNatClampNeg x1)))) [(0, .ref (b + g)), (1, .int c), (2, .int r), (3, .int v), (4, .int (1 <<< (c &&& 31)))] 81 [.int x2, .int r, .ref (b + t)] := by
        intro x2 e_x2
        refine j_iast B not_false rfl (jn nht ht) (inF_in h5) d_G_put_81 ?_
        refine j_aload_n B d_G_put_82 rfl 0 rfl ?_
        refine gf_G_18 B (jn ngt.symm (jn ngh.symm hg)) rfl d_G_put_83 ?_
        refine j_iload_n B d_G_put_86 rfl 2 rfl ?_
        refine j_iload_n B d_G_put_87 rfl 3 rfl ?_
        refine j_iconst (v := 3) B d_G_put_88 (by decide) ?_
        have j115 : ∀ x3 : Int32, x3 = (if v = 3 then (F2 r.toNatClampNeg) ||| (1 <<< (c &&& 31)) else (F2 r.toNatClampNeg) &&& ((1 <<< (c &&& 31)) ^^^ (-1))) → jW l b D Γ False 0 0 5 ((σ.set h (.inl (ta 0, 24, .inl (upd F0 r.toNatClampNeg x1)))).set t (.inl (ta 0, 24, .inl (upd F1 r.toNatClampNeg x2)))) [(0, .ref (b + g)), (1, .int c), (2, .int r), (3, .int v), (4, .int (1 <<< (c &&& 31)))] 115 [.int x3, .int r, .ref (b + w)] := by
          intro x3 e_x3
          refine j_iast B not_false rfl (jn ntw (jn nhw hw)) (inF_in h5) d_G_put_115 ?_
          exact j_vret B K (by subst e_x1 e_x2 e_x3; simp only [pB, h5, if_true]) d_G_put_116
        refine j_icmp_ne B d_G_put_89 rfl (fun h89 => ?_) (fun h89 => ?_)
        · -- 89 jump
          refine j_aload_n B d_G_put_104 rfl 0 rfl ?_
          refine gf_G_18 B (jn ngt.symm (jn ngh.symm hg)) rfl d_G_put_105 ?_
          refine j_iload_n B d_G_put_108 rfl 2 rfl ?_
          refine j_iald B rfl (jn ntw (jn nhw hw)) (inF_in h5) d_G_put_109 ?_
          refine j_iload B d_G_put_110 4 rfl ?_
          refine j_iconst (v := (-1)) B d_G_put_112 (by decide) ?_
          refine j_ixor B d_G_put_113 ?_
          refine j_iand B d_G_put_114 ?_
          exact j115 _ (by rw [if_neg h89])
        · -- 89 on
          refine j_aload_n B d_G_put_92 rfl 0 rfl ?_
          refine gf_G_18 B (jn ngt.symm (jn ngh.symm hg)) rfl d_G_put_93 ?_
          refine j_iload_n B d_G_put_96 rfl 2 rfl ?_
          refine j_iald B rfl (jn ntw (jn nhw hw)) (inF_in h5) d_G_put_97 ?_
          refine j_iload B d_G_put_98 4 rfl ?_
          refine j_ior B d_G_put_100 ?_
          refine j_goto B d_G_put_101 rfl ?_
          exact j115 _ (by rw [if_pos h89])
      refine j_icmp_ne B d_G_put_55 rfl (fun h55 => ?_) (fun h55 => ?_)
      · -- 55 jump
        refine j_aload_n B d_G_put_70 rfl 0 rfl ?_
        refine gf_G_15 B (jn ngh.symm hg) rfl d_G_put_71 ?_
        refine j_iload_n B d_G_put_74 rfl 2 rfl ?_
        refine j_iald B rfl (jn nht ht) (inF_in h5) d_G_put_75 ?_
        refine j_iload B d_G_put_76 4 rfl ?_
        refine j_iconst (v := (-1)) B d_G_put_78 (by decide) ?_
        refine j_ixor B d_G_put_79 ?_
        refine j_iand B d_G_put_80 ?_
        exact j81 _ (by rw [if_neg h55])
      · -- 55 on
        refine j_aload_n B d_G_put_58 rfl 0 rfl ?_
        refine gf_G_15 B (jn ngh.symm hg) rfl d_G_put_59 ?_
        refine j_iload_n B d_G_put_62 rfl 2 rfl ?_
        refine j_iald B rfl (jn nht ht) (inF_in h5) d_G_put_63 ?_
        refine j_iload B d_G_put_64 4 rfl ?_
        refine j_ior B d_G_put_66 ?_
        refine j_goto B d_G_put_67 rfl ?_
        exact j81 _ (by rw [if_pos h55])
    refine j_icmp_ne B d_G_put_21 rfl (fun h21 => ?_) (fun h21 => ?_)
    · -- 21 jump
      refine j_aload_n B d_G_put_36 rfl 0 rfl ?_
      refine gf_G_9 B hg rfl d_G_put_37 ?_
      refine j_iload_n B d_G_put_40 rfl 2 rfl ?_
      refine j_iald B rfl hh (inF_in h5) d_G_put_41 ?_
      refine j_iload B d_G_put_42 4 rfl ?_
      refine j_iconst (v := (-1)) B d_G_put_44 (by decide) ?_
      refine j_ixor B d_G_put_45 ?_
      refine j_iand B d_G_put_46 ?_
      exact j47 _ (by rw [if_neg h21])
    · -- 21 on
      refine j_aload_n B d_G_put_24 rfl 0 rfl ?_
      refine gf_G_9 B hg rfl d_G_put_25 ?_
      refine j_iload_n B d_G_put_28 rfl 2 rfl ?_
      refine j_iald B rfl hh (inF_in h5) d_G_put_29 ?_
      refine j_iload B d_G_put_30 4 rfl ?_
      refine j_ior B d_G_put_32 ?_
      refine j_goto B d_G_put_33 rfl ?_
      exact j47 _ (by rw [if_pos h21])
  · -- 5 on
    replace h5 := bI_f h5
    exact j_vret B K (by simp only [pB, h5, Bool.false_eq_true, if_false, jset hh, jset ht, jset hw]) d_G_put_8
set_option maxRecDepth 100000 in
set_option maxHeartbeats 4000000 in
theorem c_G_takeFrom {l : Launch} {b : Nat} {D : va_G} {ta : Nat → ClassId} {σ : List va_E} {g h t w g2 h2 t2 w2 : Nat} {F0 F1 F2 E0 E1 E2 : Nat → Int32} (hg : σ[g]? = some (.inr (0, [.ref (b + h), .ref (b + t), .ref (b + w)]))) (hh : σ[h]? = some (.inl (ta 0, 24, .inl F0))) (ht : σ[t]? = some (.inl (ta 0, 24, .inl F1))) (hw : σ[w]? = some (.inl (ta 0, 24, .inl F2))) (hg2 : σ[g2]? = some (.inr (0, [.ref (b + h2), .ref (b + t2), .ref (b + w2)]))) (hh2 : σ[h2]? = some (.inl (ta 0, 24, .inl E0))) (ht2 : σ[t2]? = some (.inl (ta 0, 24, .inl E1))) (hw2 : σ[w2]? = some (.inl (ta 0, 24, .inl E2))) (nhg : h ≠ g) (nht : h ≠ t) (nhw : h ≠ w) (nhg2 : h ≠ g2) (nhh2 : h ≠ h2) (nht2 : h ≠ t2) (nhw2 : h ≠ w2) (ntg : t ≠ g) (ntw : t ≠ w) (ntg2 : t ≠ g2) (nth2 : t ≠ h2) (ntt2 : t ≠ t2) (ntw2 : t ≠ w2) (nwg : w ≠ g) (nwg2 : w ≠ g2) (nwh2 : w ≠ h2) (nwt2 : w ≠ t2) (nww2 : w ≠ w2) (z0 : Z24 E0) (z1 : Z24 E1) (z2 : Z24 E2) (y0 : Z24 F0) (y1 : Z24 F1) (y2 : Z24 F2) : jC l b D ta False y_G_takeFrom b_G_takeFrom 2 none (rL 1) [.ref (b + g), .ref (b + g2)] (σ) none (((σ.set h (.inl (ta 0, 24, .inl E0))).set t (.inl (ta 0, 24, .inl E1))).set w (.inl (ta 0, 24, .inl E2))) := by
  refine jC_of (own := "WireField$Grid") (by decide +kernel) (Nat.le_of_ble_eq_true rfl) rfl (fun Γ B K => ?_)
  change jW l b D Γ False 0 0 2 (σ) [(0, .ref (b + g)), (1, .ref (b + g2))] 0 []
  refine j_aload_n B d_G_takeFrom_0 rfl 1 rfl ?_
  refine gf_G_9 B hg2 rfl d_G_takeFrom_1 ?_
  refine j_iconst (v := 0) B d_G_takeFrom_4 (by decide) ?_
  refine j_aload_n B d_G_takeFrom_5 rfl 0 rfl ?_
  refine gf_G_9 B hg rfl d_G_takeFrom_6 ?_
  refine j_iconst (v := 0) B d_G_takeFrom_9 (by decide) ?_
  refine j_bipush (v := 24) B d_G_takeFrom_10 (by decide) ?_
  refine k_copy B w_257 w_259 w_258 w_20 rfl rfl hh2 hh ⟨by decide, by decide⟩ (fun _ _ => rfl) (by decide) (Nat.le_of_ble_eq_true rfl) (z24 z0 y0) d_G_takeFrom_12 ?_
  refine j_aload_n B d_G_takeFrom_15 rfl 1 rfl ?_
  refine gf_G_15 B (jn nhg2 hg2) rfl d_G_takeFrom_16 ?_
  refine j_iconst (v := 0) B d_G_takeFrom_19 (by decide) ?_
  refine j_aload_n B d_G_takeFrom_20 rfl 0 rfl ?_
  refine gf_G_15 B (jn nhg hg) rfl d_G_takeFrom_21 ?_
  refine j_iconst (v := 0) B d_G_takeFrom_24 (by decide) ?_
  refine j_bipush (v := 24) B d_G_takeFrom_25 (by decide) ?_
  refine k_copy B w_257 w_259 w_258 w_20 rfl rfl (jn nht2 ht2) (jn nht ht) ⟨by decide, by decide⟩ (fun _ _ => rfl) (by decide) (Nat.le_of_ble_eq_true rfl) (z24 z1 y1) d_G_takeFrom_27 ?_
  refine j_aload_n B d_G_takeFrom_30 rfl 1 rfl ?_
  refine gf_G_18 B (jn ntg2 (jn nhg2 hg2)) rfl d_G_takeFrom_31 ?_
  refine j_iconst (v := 0) B d_G_takeFrom_34 (by decide) ?_
  refine j_aload_n B d_G_takeFrom_35 rfl 0 rfl ?_
  refine gf_G_18 B (jn ntg (jn nhg hg)) rfl d_G_takeFrom_36 ?_
  refine j_iconst (v := 0) B d_G_takeFrom_39 (by decide) ?_
  refine j_bipush (v := 24) B d_G_takeFrom_40 (by decide) ?_
  refine k_copy B w_257 w_259 w_258 w_20 rfl rfl (jn ntw2 (jn nhw2 hw2)) (jn ntw (jn nhw hw)) ⟨by decide, by decide⟩ (fun _ _ => rfl) (by decide) (Nat.le_of_ble_eq_true rfl) (z24 z2 y2) d_G_takeFrom_42 ?_
  exact j_vret B K rfl d_G_takeFrom_45
end
section

/-! bits: pasted from kit/laws/BITS.to-paste (families bt, nx) -/
def bt (x : Int32) (i : Nat) : Bool := x.toBitVec.getLsbD i
theorem b_ext {x y : Int32} (h : ∀ i, i < 32 → bt x i = bt y i) : x = y := Int32.toBitVec_inj.mp (BitVec.eq_of_getLsbD_eq (fun i hi => h i hi))
theorem b_or (x y : Int32) (i : Nat) : bt (x ||| y) i = (bt x i || bt y i) := by unfold bt; rw [Int32.toBitVec_or, BitVec.getLsbD_or]
theorem b_and (x y : Int32) (i : Nat) : bt (x &&& y) i = (bt x i && bt y i) := by unfold bt; rw [Int32.toBitVec_and, BitVec.getLsbD_and]
theorem b_xor (x y : Int32) (i : Nat) : bt (x ^^^ y) i = (bt x i ^^ bt y i) := by unfold bt; rw [Int32.toBitVec_xor, BitVec.getLsbD_xor]
theorem b_big {x : Int32} {i : Nat} (h : 32 ≤ i) : bt x i = false := BitVec.getLsbD_of_ge _ _ h
theorem b_m1 : ∀ i, i < 32 → bt (-1) i = true := by decide +kernel
theorem b_0 (i : Nat) : bt 0 i = false := BitVec.getLsbD_zero
theorem s_l : ∀ n, n < 32 → ((nI n &&& 31).toBitVec.smod 32).toNat = n := by decide +kernel
theorem s_u : ∀ n, n < 32 → (((nI n).toUInt32 &&& Int32.toUInt32 31).toBitVec % 32).toNat = n := by decide +kernel
theorem b_shl (n : Nat) (hn : n < 32) (x : Int32) {i : Nat} (hi : i < 32) : bt (x <<< (nI n &&& 31)) i = (decide (n ≤ i) && bt x (i - n)) := by
  unfold bt
  rw [Int32.toBitVec_shiftLeft]
  show (x.toBitVec <<< ((nI n &&& 31).toBitVec.smod 32).toNat).getLsbD i = _
  rw [s_l n hn, BitVec.getLsbD_shiftLeft]
  rcases Nat.lt_or_ge i n with h | h
  · simp [h, Nat.not_le.mpr h]
  · simp [hi, h, Nat.not_lt.mpr h]
theorem b_ushr (n : Nat) (hn : n < 32) (x : Int32) (i : Nat) : bt ((x.toUInt32 >>> ((nI n).toUInt32 &&& Int32.toUInt32 31)).toInt32) i = bt x (n + i) := by
  show (x.toUInt32 >>> ((nI n).toUInt32 &&& Int32.toUInt32 31)).toBitVec.getLsbD i = x.toUInt32.toBitVec.getLsbD (n + i)
  rw [UInt32.toBitVec_shiftRight]
  show (x.toUInt32.toBitVec >>> (((nI n).toUInt32 &&& Int32.toUInt32 31).toBitVec % 32).toNat).getLsbD i = _
  rw [s_u n hn, BitVec.getLsbD_ushiftRight]
theorem nx_xor (a b : Nat) : nI a ^^^ nI b = nI (a ^^^ b) := by
  apply Int32.toBitVec_inj.1
  show BitVec.ofNat 32 a ^^^ BitVec.ofNat 32 b = BitVec.ofNat 32 (a ^^^ b)
  apply BitVec.eq_of_getLsbD_eq
  intro i hi
  simp [hi]
/-! the JDK's bitCount, step by step -/
def ush (s x : Int32) : Int32 := (x.toUInt32 >>> (s.toUInt32 &&& Int32.toUInt32 31)).toInt32
def bc1 (x : Int32) : Int32 := x - (ush 1 x &&& 1431655765)
def bc2 (x : Int32) : Int32 := (x &&& 858993459) + (ush 2 x &&& 858993459)
def bc3 (x : Int32) : Int32 := (x + ush 4 x) &&& 252645135
def bc4 (x : Int32) : Int32 := x + ush 8 x
def bc5 (x : Int32) : Int32 := x + ush 16 x
def bcF (x : Int32) : Int32 := bc5 (bc4 (bc3 (bc2 (bc1 x)))) &&& 63
def mnF (a b : Int32) : Int32 := if b < a then b else a
theorem fm_nn {T : Nat} (hT : T < 2 ^ 31) : 0 ≤ nI T ^^^ 16 := by
  show 0 ≤ nI T ^^^ nI 16
  rw [nx_xor]
  exact nI_pos' (Nat.xor_lt_two_pow hT (by decide))
theorem fm_rem {T : Nat} (hT : T < 2 ^ 31) : nI T - nI T / 16 * 16 = nI (T % 16) := pk_rem (d := 16) hT (by decide) (by decide)
/-- are two fields the same -/
def gEq (F0 F1 F2 E0 E1 E2 : Nat → Int32) : Bool := (List.range 24).all (fun k => decide (F0 k = E0 k ∧ F1 k = E1 k ∧ F2 k = E2 k))
theorem gEq_t {F0 F1 F2 E0 E1 E2 : Nat → Int32} (h : ∀ k, k < 24 → F0 k = E0 k ∧ F1 k = E1 k ∧ F2 k = E2 k) : gEq F0 F1 F2 E0 E1 E2 = true := List.all_eq_true.mpr (fun k hk => decide_eq_true (h k (List.mem_range.mp hk)))
theorem gEq_f {F0 F1 F2 E0 E1 E2 : Nat → Int32} {k : Nat} (hk : k < 24) (h : ¬ (F0 k = E0 k ∧ F1 k = E1 k ∧ F2 k = E2 k)) : gEq F0 F1 F2 E0 E1 E2 = false := by
  cases hg : gEq F0 F1 F2 E0 E1 E2 with
  | false => rfl
  | true => exact absurd (of_decide_eq_true (List.all_eq_true.mp hg k (List.mem_range.mpr hk))) h
def cntF (f : Nat → Int32) : Nat → Int32
  | 0 => 0
  | n + 1 => cntF f n + bcF (f n)
def selF (F0 F1 F2 : Nat → Int32) (v : Int32) : Nat → Int32 := fun k => if v = 1 then F0 k else if v = 2 then F1 k else F2 k
/-! the bits that are beside one, two, three heads, as the class counts them -/
def bsS (s : Int32 × Int32 × Int32) (near : Int32) : Int32 × Int32 × Int32 := (s.1 ||| near, s.2.1 ||| (s.1 &&& near), s.2.2 ||| (s.2.1 &&& near))
def bsR (x : Int32) (s : Int32 × Int32 × Int32) : Int32 × Int32 × Int32 := bsS (bsS (bsS s (x <<< (1 &&& 31))) x) (ush 1 x)
def bsG (F : Nat → Int32) : Nat → Nat → Int32 × Int32 × Int32 → Int32 × Int32 × Int32
  | 0, _, s => s
  | n + 1, k, s => if k < 24 then bsG F n (k + 1) (bsR (F k) s) else s
def bsd (F : Nat → Int32) (R : Nat) : Int32 := (bsG F (R + 2 - (R - 1)) (R - 1) (0, 0, 0)).1 &&& ((bsG F (R + 2 - (R - 1)) (R - 1) (0, 0, 0)).2.2 ^^^ (-1))
theorem bs_max {R : Nat} (hR : R < 24) : (if nI R - 1 < 0 then (0 : Int32) else nI R - 1) = nI (R - 1) := by
  cases R with
  | zero => rfl
  | succ R => rw [nI_pred, if_neg (nI_pos (by omega))]; rfl
theorem bsG_0 {F : Nat → Int32} {n k : Nat} {s : Int32 × Int32 × Int32} (h : ¬ k < 24) : bsG F n k s = s := by
  cases n
  · rfl
  · exact if_neg h
/-- the rows up to k from one picture, the others from another -/
def gUp (f g : Nat → Int32) (k : Nat) : Nat → Int32 := fun j => if j < k then f j else g j
theorem gUp_0 (f g : Nat → Int32) : gUp f g 0 = g := by funext j; simp [gUp]
theorem gUp_s (f g : Nat → Int32) (k : Nat) (x : Int32) (hx : x = f k) : upd (gUp f g k) k x = gUp f g (k + 1) := by
  funext j
  by_cases h : j = k
  · subst h; rw [pk_us, hx]; simp [gUp]
  · rw [pk_un h]; simp only [gUp]
    by_cases h2 : j < k
    · rw [if_pos h2, if_pos (by omega)]
    · rw [if_neg h2, if_neg (by omega)]
theorem gUp_e {f g : Nat → Int32} (hf : Z24 f) (hg : Z24 g) : gUp f g 24 = f := by
  funext j
  simp only [gUp]
  by_cases h : j < 24
  · rw [if_pos h]
  · rw [if_neg h, hf j (by omega), hg j (by omega)]
theorem gUp_at {f g : Nat → Int32} {k : Nat} : gUp f g k k = g k := by simp [gUp]
theorem s3 {α : Type} {σ : List α} {h t w : Nat} {x y z x' y' z' : α} (n1 : h ≠ t) (n2 : h ≠ w) (n3 : t ≠ w) : (((((σ.set h x).set t y).set w z).set h x').set t y').set w z' = ((σ.set h x').set t y').set w z' := by
  apply List.ext_getElem?
  intro i
  simp only [List.getElem?_set, List.length_set]
  by_cases a : h = i <;> by_cases b : t = i <;> by_cases c : w = i <;> simp_all
theorem s3_0 {α : Type} {σ : List α} {h t w : Nat} {x y z : α} (hh : σ[h]? = some x) (ht : σ[t]? = some y) (hw : σ[w]? = some z) : ((σ.set h x).set t y).set w z = σ := by rw [jset hh, jset ht, jset hw]
/-- a generation's rows, as the class makes them -/
def nxH (E0 E2 : Nat → Int32) : Nat → Int32 := fun k => if k < 24 then E2 k &&& bsd E0 k else 0
def nxW (E0 E1 E2 : Nat → Int32) : Nat → Int32 := fun k => (E2 k &&& (nxH E0 E2 k ^^^ (-1))) ||| E1 k
theorem nxH_at {E0 E2 : Nat → Int32} {k : Nat} (h : k < 24) : nxH E0 E2 k = E2 k &&& bsd E0 k := if_pos h
theorem nxH_z {E0 E2 : Nat → Int32} : Z24 (nxH E0 E2) := fun k h => if_neg (by omega)
theorem nxW_z {E0 E1 E2 : Nat → Int32} (h1 : Z24 E1) (h2 : Z24 E2) : Z24 (nxW E0 E1 E2) := fun k h => by simp [nxW, h1 k h, h2 k h]
end
section
set_option maxRecDepth 100000 in
set_option maxHeartbeats 4000000 in
theorem c_Int_bitCount {l : Launch} {b : Nat} {D : va_G} {ta : Nat → ClassId} {σ : List va_E} (x : Int32) : jC l b D ta False y_Int_bitCount b_Int_bitCount 1 (some .int) (rL 0) [.int x] (σ) (some (.int (bcF x))) (σ) := by
  refine jC_ofF (own := "java/lang/Integer") (by decide +kernel) (Nat.le_of_ble_eq_true rfl) rfl (fun Γ B K => ?_)
  change jW l b D Γ False 0 0 1 (σ) [(0, .int x)] 0 []
  refine j_iload_n B d_Int_bitCount_0 rfl 0 rfl ?_
  refine j_iload_n B d_Int_bitCount_1 rfl 0 rfl ?_
  refine j_iconst (v := 1) B d_Int_bitCount_2 (by decide) ?_
  refine j_iushr B d_Int_bitCount_3 rfl ?_
  refine j_ldcw B w_338 d_Int_bitCount_4 ?_
  refine j_iand B d_Int_bitCount_7 ?_
  refine j_isub B d_Int_bitCount_8 ?_
  refine j_topi (fun x1 e_x1 => ?_)
  refine j_istore_n (L' := [(0, .int x1)]) B d_Int_bitCount_9 rfl (by decide) [0] rfl ?_
  refine j_iload_n B d_Int_bitCount_10 rfl 0 rfl ?_
  refine j_ldcw B w_339 d_Int_bitCount_11 ?_
  refine j_iand B d_Int_bitCount_14 ?_
  refine j_iload_n B d_Int_bitCount_15 rfl 0 rfl ?_
  refine j_iconst (v := 2) B d_Int_bitCount_16 (by decide) ?_
  refine j_iushr B d_Int_bitCount_17 rfl ?_
  refine j_ldcw B w_339 d_Int_bitCount_18 ?_
  refine j_iand B d_Int_bitCount_21 ?_
  refine j_iadd B d_Int_bitCount_22 ?_
  refine j_topi (fun x2 e_x2 => ?_)
  refine j_istore_n (L' := [(0, .int x2)]) B d_Int_bitCount_23 rfl (by decide) [0] rfl ?_
  refine j_iload_n B d_Int_bitCount_24 rfl 0 rfl ?_
  refine j_iload_n B d_Int_bitCount_25 rfl 0 rfl ?_
  refine j_iconst (v := 4) B d_Int_bitCount_26 (by decide) ?_
  refine j_iushr B d_Int_bitCount_27 rfl ?_
  refine j_iadd B d_Int_bitCount_28 ?_
  refine j_ldcw B w_340 d_Int_bitCount_29 ?_
  refine j_iand B d_Int_bitCount_32 ?_
  refine j_topi (fun x3 e_x3 => ?_)
  refine j_istore_n (L' := [(0, .int x3)]) B d_Int_bitCount_33 rfl (by decide) [0] rfl ?_
  refine j_iload_n B d_Int_bitCount_34 rfl 0 rfl ?_
  refine j_iload_n B d_Int_bitCount_35 rfl 0 rfl ?_
  refine j_bipush (v := 8) B d_Int_bitCount_36 (by decide) ?_
  refine j_iushr B d_Int_bitCount_38 rfl ?_
  refine j_iadd B d_Int_bitCount_39 ?_
  refine j_topi (fun x4 e_x4 => ?_)
  refine j_istore_n (L' := [(0, .int x4)]) B d_Int_bitCount_40 rfl (by decide) [0] rfl ?_
  refine j_iload_n B d_Int_bitCount_41 rfl 0 rfl ?_
  refine j_iload_n B d_Int_bitCount_42 rfl 0 rfl ?_
  refine j_bipush (v := 16) B d_Int_bitCount_43 (by decide) ?_
  refine j_iushr B d_Int_bitCount_45 rfl ?_
  refine j_iadd B d_Int_bitCount_46 ?_
  refine j_topi (fun x5 e_x5 => ?_)
  refine j_istore_n (L' := [(0, .int x5)]) B d_Int_bitCount_47 rfl (by decide) [0] rfl ?_
  refine j_iload_n B d_Int_bitCount_48 rfl 0 rfl ?_
  refine j_bipush (v := 63) B d_Int_bitCount_49 (by decide) ?_
  refine j_iand B d_Int_bitCount_51 ?_
  exact j_iret B K (by rw [show x5 = bc5 x4 from e_x5, show x4 = bc4 x3 from e_x4, show x3 = bc3 x2 from e_x3, show x2 = bc2 x1 from e_x2, show x1 = bc1 x from e_x1]; rfl) rfl d_Int_bitCount_52
set_option maxRecDepth 100000 in
set_option maxHeartbeats 4000000 in
theorem c_Math_min {l : Launch} {b : Nat} {D : va_G} {ta : Nat → ClassId} {σ : List va_E} (x y : Int32) : jC l b D ta False y_Math_min b_Math_min 2 (some .int) (rL 0) [.int x, .int y] (σ) (some (.int (mnF x y))) (σ) := by
  refine jC_ofF (own := "java/lang/Math") (by decide +kernel) (Nat.le_of_ble_eq_true rfl) rfl (fun Γ B K => ?_)
  change jW l b D Γ False 0 0 2 (σ) [(0, .int x), (1, .int y)] 0 []
  refine j_iload_n B d_Math_min_0 rfl 0 rfl ?_
  refine j_iload_n B d_Math_min_1 rfl 1 rfl ?_
  refine j_icmp_gt B d_Math_min_2 rfl (fun h2 => ?_) (fun h2 => ?_)
  · -- 2 jump
    refine j_iload_n B d_Math_min_9 rfl 1 rfl ?_
    exact j_iret B K (by simp [mnF, h2]) rfl d_Math_min_10
  · -- 2 on
    refine j_iload_n B d_Math_min_5 rfl 0 rfl ?_
    refine j_goto B d_Math_min_6 rfl ?_
    exact j_iret B K (by simp [mnF, h2]) rfl d_Math_min_10
set_option maxRecDepth 100000 in
set_option maxHeartbeats 4000000 in
theorem c_Math_floorMod {l : Launch} {b : Nat} {D : va_G} {ta : Nat → ClassId} {σ : List va_E} {T : Nat} (hT : T < 2 ^ 31) : jC l b D ta False y_Math_floorMod b_Math_floorMod 3 (some .int) (rL 0) [.int (nI T), .int 16] (σ) (some (.int (nI (T % 16)))) (σ) := by
  refine jC_ofF (own := "java/lang/Math") (by decide +kernel) (Nat.le_of_ble_eq_true rfl) rfl (fun Γ B K => ?_)
  change jW l b D Γ False 0 0 3 (σ) [(0, .int (nI T)), (1, .int 16)] 0 []
  refine j_iload_n B d_Math_floorMod_0 rfl 0 rfl ?_
  refine j_iload_n B d_Math_floorMod_1 rfl 1 rfl ?_
  refine j_irem B d_Math_floorMod_2 (by decide) ?_
  refine j_istore_n (L' := [(0, .int (nI T)), (1, .int 16), (2, .int ((nI T) - (nI T) / 16 * 16))]) B d_Math_floorMod_3 rfl (by decide) [1, 2, 0] rfl ?_
  refine j_iload_n B d_Math_floorMod_4 rfl 0 rfl ?_
  refine j_iload_n B d_Math_floorMod_5 rfl 1 rfl ?_
  refine j_ixor B d_Math_floorMod_6 ?_
  refine j_if_ge B d_Math_floorMod_7 rfl (fun h7 => ?_) (fun h7 => absurd (fm_nn hT) h7)
  refine j_iload_n B d_Math_floorMod_18 rfl 2 rfl ?_
  exact j_iret B K (fm_rem hT) rfl d_Math_floorMod_19
set_option maxRecDepth 100000 in
set_option maxHeartbeats 4000000 in
theorem c_G_isSameAs {l : Launch} {b : Nat} {D : va_G} {ta : Nat → ClassId} {σ : List va_E} {g h t w g2 h2 t2 w2 : Nat} {F0 F1 F2 E0 E1 E2 : Nat → Int32} (hg : σ[g]? = some (.inr (0, [.ref (b + h), .ref (b + t), .ref (b + w)]))) (hh : σ[h]? = some (.inl (ta 0, 24, .inl F0))) (ht : σ[t]? = some (.inl (ta 0, 24, .inl F1))) (hw : σ[w]? = some (.inl (ta 0, 24, .inl F2))) (hg2 : σ[g2]? = some (.inr (0, [.ref (b + h2), .ref (b + t2), .ref (b + w2)]))) (hh2 : σ[h2]? = some (.inl (ta 0, 24, .inl E0))) (ht2 : σ[t2]? = some (.inl (ta 0, 24, .inl E1))) (hw2 : σ[w2]? = some (.inl (ta 0, 24, .inl E2))) : jC l b D ta False y_G_isSameAs b_G_isSameAs 3 (some .boolean) (rL 0) [.ref (b + g), .ref (b + g2)] (σ) (some (.int (bI (gEq F0 F1 F2 E0 E1 E2)))) (σ) := by
  refine jC_of (own := "WireField$Grid") (by decide +kernel) (Nat.le_of_ble_eq_true rfl) rfl (fun Γ B K => ?_)
  change jW l b D Γ False 0 0 3 (σ) [(0, .ref (b + g)), (1, .ref (b + g2))] 0 []
  refine j_iconst (v := 0) B d_G_isSameAs_0 (by decide) ?_
  refine j_istore_n (L' := [(0, .ref (b + g)), (1, .ref (b + g2)), (2, .int 0)]) B d_G_isSameAs_1 rfl (by decide) [1, 2, 0] rfl ?_
  have lp2 : ∀ (n : Nat) (k : Nat), 24 - k = n → (k ≤ 24) → (∀ j, j < k → F0 j = E0 j ∧ F1 j = E1 j ∧ F2 j = E2 j) → jW l b D Γ False 0 0 3 (σ) [(0, .ref (b + g)), (1, .ref (b + g2)), (2, .int (nI k))] 2 [] := by
    refine jloop (fun n ih => ?_)
    intro k hn hk hI
    refine j_iload_n B d_G_isSameAs_2 rfl 2 rfl ?_
    refine j_bipush (v := 24) B d_G_isSameAs_3 (by decide) ?_
    refine j_icmp_ge B d_G_isSameAs_5 rfl (fun h5 => ?_) (fun h5 => ?_)
    · -- 5 jump
      have hk24 := lp_ge (n := 24) (by decide) hk h5
      subst hk24
      refine j_iconst (v := 1) B d_G_isSameAs_61 (by decide) ?_
      exact j_zret B K (by decide) (by rw [gEq_t hI]; rfl) rfl d_G_isSameAs_62
    · -- 5 on
      have hk24 := lp_lt (n := 24) (by decide) hk h5
      refine j_aload_n B d_G_isSameAs_8 rfl 0 rfl ?_
      refine gf_G_9 B hg rfl d_G_isSameAs_9 ?_
      refine j_iload_n B d_G_isSameAs_12 rfl 2 rfl ?_
      refine j_ialdN B rfl hh (by omega) d_G_isSameAs_13 ?_
      refine j_aload_n B d_G_isSameAs_14 rfl 1 rfl ?_
      refine gf_G_9 B hg2 rfl d_G_isSameAs_15 ?_
      refine j_iload_n B d_G_isSameAs_18 rfl 2 rfl ?_
      refine j_ialdN B rfl hh2 (by omega) d_G_isSameAs_19 ?_
      refine j_icmp_ne B d_G_isSameAs_20 rfl (fun h20 => ?_) (fun h20 => ?_)
      · -- 20 jump
        refine j_iconst (v := 0) B d_G_isSameAs_53 (by decide) ?_
        exact j_zret B K (by decide) (by rw [gEq_f hk24 (fun q => by simp_all)]; rfl) rfl d_G_isSameAs_54
      · -- 20 on
        refine j_aload_n B d_G_isSameAs_23 rfl 0 rfl ?_
        refine gf_G_15 B hg rfl d_G_isSameAs_24 ?_
        refine j_iload_n B d_G_isSameAs_27 rfl 2 rfl ?_
        refine j_ialdN B rfl ht (by omega) d_G_isSameAs_28 ?_
        refine j_aload_n B d_G_isSameAs_29 rfl 1 rfl ?_
        refine gf_G_15 B hg2 rfl d_G_isSameAs_30 ?_
        refine j_iload_n B d_G_isSameAs_33 rfl 2 rfl ?_
        refine j_ialdN B rfl ht2 (by omega) d_G_isSameAs_34 ?_
        refine j_icmp_ne B d_G_isSameAs_35 rfl (fun h35 => ?_) (fun h35 => ?_)
        · -- 35 jump
          refine j_iconst (v := 0) B d_G_isSameAs_53 (by decide) ?_
          exact j_zret B K (by decide) (by rw [gEq_f hk24 (fun q => by simp_all)]; rfl) rfl d_G_isSameAs_54
        · -- 35 on
          refine j_aload_n B d_G_isSameAs_38 rfl 0 rfl ?_
          refine gf_G_18 B hg rfl d_G_isSameAs_39 ?_
          refine j_iload_n B d_G_isSameAs_42 rfl 2 rfl ?_
          refine j_ialdN B rfl hw (by omega) d_G_isSameAs_43 ?_
          refine j_aload_n B d_G_isSameAs_44 rfl 1 rfl ?_
          refine gf_G_18 B hg2 rfl d_G_isSameAs_45 ?_
          refine j_iload_n B d_G_isSameAs_48 rfl 2 rfl ?_
          refine j_ialdN B rfl hw2 (by omega) d_G_isSameAs_49 ?_
          refine j_icmp_eq B d_G_isSameAs_50 rfl (fun h50 => ?_) (fun h50 => ?_)
          · -- 50 jump
            refine j_iinc (L' := [(0, .ref (b + g)), (1, .ref (b + g2)), (2, .int (nI (k + 1)))]) (v := nI (k + 1)) B d_G_isSameAs_55 (k := 2) rfl (nI_succ k).symm (by decide) [1, 2, 0] rfl ?_
            refine j_goto B d_G_isSameAs_58 rfl ?_
            exact ih _ (by omega) (k + 1) rfl (by omega) (lt_s hI ⟨h20, h35, h50⟩)
          · -- 50 on
            refine j_iconst (v := 0) B d_G_isSameAs_53 (by decide) ?_
            exact j_zret B K (by decide) (by rw [gEq_f hk24 (fun q => by simp_all)]; rfl) rfl d_G_isSameAs_54
  exact lp2 _ 0 rfl (by omega) (fun j h => absurd h (Nat.not_lt_zero j))
set_option maxRecDepth 100000 in
set_option maxHeartbeats 4000000 in
theorem c_G_count {l : Launch} {b : Nat} {D : va_G} {ta : Nat → ClassId} {σ : List va_E} {g h t w : Nat} {F0 F1 F2 : Nat → Int32} (hg : σ[g]? = some (.inr (0, [.ref (b + h), .ref (b + t), .ref (b + w)]))) (hh : σ[h]? = some (.inl (ta 0, 24, .inl F0))) (ht : σ[t]? = some (.inl (ta 0, 24, .inl F1))) (hw : σ[w]? = some (.inl (ta 0, 24, .inl F2))) (v : Int32) : jC l b D ta False y_G_count b_G_count 5 (some .int) (rL 1) [.ref (b + g), .int v] (σ) (some (.int (cntF (selF F0 F1 F2 v) 24))) (σ) := by
  refine jC_of (own := "WireField$Grid") (by decide +kernel) (Nat.le_of_ble_eq_true rfl) rfl (fun Γ B K => ?_)
  change jW l b D Γ False 0 0 5 (σ) [(0, .ref (b + g)), (1, .int v)] 0 []
  refine j_iconst (v := 0) B d_G_count_0 (by decide) ?_
  refine j_istore_n (L' := [(0, .ref (b + g)), (1, .int v), (2, .int 0)]) B d_G_count_1 rfl (by decide) [1, 2, 0] rfl ?_
  refine j_iconst (v := 0) B d_G_count_2 (by decide) ?_
  refine j_istore_n (L' := [(0, .ref (b + g)), (1, .int v), (2, .int 0), (3, .int 0)]) B d_G_count_3 rfl (by decide) [1, 2, 3, 0] rfl ?_
  have lp4 : ∀ (n : Nat) (k : Nat) (acc : Int32), 24 - k = n → (k ≤ 24) → (acc = cntF (selF F0 F1 F2 v) k) → jW l b D Γ False 0 0 5 (σ) [(0, .ref (b + g)), (1, .int v), (2, .int acc), (3, .int (nI k))] 4 [] := by
    refine jloop (fun n ih => ?_)
    intro k acc hn hk ha
    refine j_iload_n B d_G_count_4 rfl 3 rfl ?_
    refine j_bipush (v := 24) B d_G_count_5 (by decide) ?_
    refine j_icmp_ge B d_G_count_7 rfl (fun h7 => ?_) (fun h7 => ?_)
    · -- 7 jump
      have hk24 := lp_ge (n := 24) (by decide) hk h7
      subst hk24
      refine j_iload_n B d_G_count_60 rfl 2 rfl ?_
      exact j_iret B K ha rfl d_G_count_61
    · -- 7 on
      have hk24 := lp_lt (n := 24) (by decide) hk h7
      refine j_iload_n B d_G_count_10 rfl 1 rfl ?_
      refine j_iconst (v := 1) B d_G_count_11 (by decide) ?_
      have j44 : ∀ x : Int32, x = (if v = 1 then F0 k else if v = 2 then F1 k else F2 k) → jW l b D Γ False 0 0 5 (σ) [(0, .ref (b + g)), (1, .int v), (2, .int acc), (3, .int (nI k))] 44 [.int x] := by
        intro x e_x
        refine j_istore (L' := [(0, .ref (b + g)), (1, .int v), (2, .int acc), (3, .int (nI k)), (4, .int x)]) B d_G_count_44 (by decide) [1, 2, 3, 4, 0] rfl ?_
        refine j_iload_n B d_G_count_46 rfl 2 rfl ?_
        refine j_iload B d_G_count_47 4 rfl ?_
        refine k_callS (as := [.int x]) (rest := [.int acc]) (st1 := [.int (bcF x), .int acc]) B (c_Int_bitCount x) yf_Int_bitCount w_335 w_336 rfl (by decide) (by decide) rfl rfl (Nat.le_of_ble_eq_true rfl) d_G_count_49 ?_
        refine j_iadd B d_G_count_52 ?_
        refine j_istore_n (L' := [(0, .ref (b + g)), (1, .int v), (2, .int (acc + (bcF x))), (3, .int (nI k)), (4, .int x)]) B d_G_count_53 rfl (by decide) [1, 2, 0, 3, 4] rfl ?_
        refine j_iinc (L' := [(0, .ref (b + g)), (1, .int v), (2, .int (acc + (bcF x))), (3, .int (nI (k + 1))), (4, .int x)]) (v := nI (k + 1)) B d_G_count_54 (k := 3) rfl (nI_succ k).symm (by decide) [1, 2, 3, 0, 4] rfl ?_
        refine j_goto B d_G_count_57 rfl ?_
        refine jW.sub (L' := [(0, .ref (b + g)), (1, .int v), (2, .int (acc + (bcF x))), (3, .int (nI (k + 1)))]) [0, 1, 2, 3] rfl ?_; exact ih _ (by omega) (k + 1) (acc + bcF x) rfl (by omega) (by rw [ha, e_x]; rfl)
      refine j_icmp_ne B d_G_count_12 rfl (fun h12 => ?_) (fun h12 => ?_)
      · -- 12 jump
        refine j_iload_n B d_G_count_24 rfl 1 rfl ?_
        refine j_iconst (v := 2) B d_G_count_25 (by decide) ?_
        refine j_icmp_ne B d_G_count_26 rfl (fun h26 => ?_) (fun h26 => ?_)
        · -- 26 jump
          refine j_aload_n B d_G_count_38 rfl 0 rfl ?_
          refine gf_G_18 B hg rfl d_G_count_39 ?_
          refine j_iload_n B d_G_count_42 rfl 3 rfl ?_
          refine j_ialdN B rfl hw (by omega) d_G_count_43 ?_
          exact j44 _ (by rw [if_neg h12, if_neg h26])
        · -- 26 on
          refine j_aload_n B d_G_count_29 rfl 0 rfl ?_
          refine gf_G_15 B hg rfl d_G_count_30 ?_
          refine j_iload_n B d_G_count_33 rfl 3 rfl ?_
          refine j_ialdN B rfl ht (by omega) d_G_count_34 ?_
          refine j_goto B d_G_count_35 rfl ?_
          exact j44 _ (by rw [if_neg h12, if_pos h26])
      · -- 12 on
        refine j_aload_n B d_G_count_15 rfl 0 rfl ?_
        refine gf_G_9 B hg rfl d_G_count_16 ?_
        refine j_iload_n B d_G_count_19 rfl 3 rfl ?_
        refine j_ialdN B rfl hh (by omega) d_G_count_20 ?_
        refine j_goto B d_G_count_21 rfl ?_
        exact j44 _ (by rw [if_pos h12])
  exact lp4 _ 0 0 rfl (by omega) rfl
set_option maxRecDepth 100000 in
set_option maxHeartbeats 4000000 in
theorem c_G_besideOneOrTwoHeads {l : Launch} {b : Nat} {D : va_G} {ta : Nat → ClassId} {σ : List va_E} {g h t w : Nat} {F0 F1 F2 : Nat → Int32} (hg : σ[g]? = some (.inr (0, [.ref (b + h), .ref (b + t), .ref (b + w)]))) (hh : σ[h]? = some (.inl (ta 0, 24, .inl F0))) (ht : σ[t]? = some (.inl (ta 0, 24, .inl F1))) (hw : σ[w]? = some (.inl (ta 0, 24, .inl F2))) {R : Nat} (hR : R < 24) : jC l b D ta False y_G_besideOneOrTwoHeads b_G_besideOneOrTwoHeads 8 (some .int) (rL 1) [.ref (b + g), .int (nI R)] (σ) (some (.int (bsd F0 R))) (σ) := by
  refine jC_of (own := "WireField$Grid") (by decide +kernel) (Nat.le_of_ble_eq_true rfl) rfl (fun Γ B K => ?_)
  change jW l b D Γ False 0 0 8 (σ) [(0, .ref (b + g)), (1, .int (nI R))] 0 []
  refine j_iconst (v := 0) B d_G_besideOneOrTwoHeads_0 (by decide) ?_
  refine j_istore_n (L' := [(0, .ref (b + g)), (1, .int (nI R)), (2, .int 0)]) B d_G_besideOneOrTwoHeads_1 rfl (by decide) [1, 2, 0] rfl ?_
  refine j_iconst (v := 0) B d_G_besideOneOrTwoHeads_2 (by decide) ?_
  refine j_istore_n (L' := [(0, .ref (b + g)), (1, .int (nI R)), (2, .int 0), (3, .int 0)]) B d_G_besideOneOrTwoHeads_3 rfl (by decide) [1, 2, 3, 0] rfl ?_
  refine j_iconst (v := 0) B d_G_besideOneOrTwoHeads_4 (by decide) ?_
  refine j_istore (L' := [(0, .ref (b + g)), (1, .int (nI R)), (2, .int 0), (3, .int 0), (4, .int 0)]) B d_G_besideOneOrTwoHeads_5 (by decide) [1, 2, 3, 4, 0] rfl ?_
  refine j_iload_n B d_G_besideOneOrTwoHeads_7 rfl 1 rfl ?_
  refine j_iconst (v := 1) B d_G_besideOneOrTwoHeads_8 (by decide) ?_
  refine j_isub B d_G_besideOneOrTwoHeads_9 ?_
  refine j_iconst (v := 0) B d_G_besideOneOrTwoHeads_10 (by decide) ?_
  refine j_mmax B w_322 w_323 w_15 w_324 (by decide) (by decide) (by decide) (by decide) d_G_besideOneOrTwoHeads_11 ?_
  rw [bs_max hR]
  refine j_istore (L' := [(0, .ref (b + g)), (1, .int (nI R)), (2, .int 0), (3, .int 0), (4, .int 0), (5, .int (nI (R - 1)))]) B d_G_besideOneOrTwoHeads_14 (by decide) [1, 2, 3, 4, 5, 0] rfl ?_
  have lp16 : ∀ (n : Nat) (k : Nat) (o : Int32) (t2 : Int32) (t3 : Int32), R + 2 - k = n → (k ≤ R + 2) → (bsG F0 (R + 2 - k) k (o, t2, t3) = bsG F0 (R + 2 - (R - 1)) (R - 1) (0, 0, 0)) → jW l b D Γ False 0 0 8 (σ) [(0, .ref (b + g)), (1, .int (nI R)), (2, .int o), (3, .int t2), (4, .int t3), (5, .int (nI k))] 16 [] := by
    refine jloop (fun n ih => ?_)
    intro k o t2 t3 hn hk hI
    refine j_iload B d_G_besideOneOrTwoHeads_16 5 rfl ?_
    refine j_iload_n B d_G_besideOneOrTwoHeads_18 rfl 1 rfl ?_
    refine j_iconst (v := 1) B d_G_besideOneOrTwoHeads_19 (by decide) ?_
    refine j_iaddE (v := nI (R + 1)) B (nI_add R 1) d_G_besideOneOrTwoHeads_20 ?_
    refine j_icmp_gt B d_G_besideOneOrTwoHeads_21 rfl (fun h21 => ?_) (fun h21 => ?_)
    · -- 21 jump
      have hk2 : R + 2 - k = 0 := by have := (nI_ltI (a := R + 1) (b := k) (by omega) (by omega)).mp h21; omega
      rw [hk2] at hI
      refine j_iload_n B d_G_besideOneOrTwoHeads_117 rfl 2 rfl ?_
      refine j_iload B d_G_besideOneOrTwoHeads_118 4 rfl ?_
      refine j_iconst (v := (-1)) B d_G_besideOneOrTwoHeads_120 (by decide) ?_
      refine j_ixor B d_G_besideOneOrTwoHeads_121 ?_
      refine j_iand B d_G_besideOneOrTwoHeads_122 ?_
      exact j_iret B K (by have hI2 : (o, t2, t3) = bsG F0 (R + 2 - (R - 1)) (R - 1) (0, 0, 0) := hI; simp only [bsd, ← hI2]) rfl d_G_besideOneOrTwoHeads_123
    · -- 21 on
      have hk2 : k ≤ R + 1 := (Nat.lt_or_ge (R + 1) k).elim (fun q => absurd (nI_lt q (by omega)) h21) id
      refine j_iload B d_G_besideOneOrTwoHeads_24 5 rfl ?_
      refine j_bipush (v := 24) B d_G_besideOneOrTwoHeads_26 (by decide) ?_
      refine j_icmp_ge B d_G_besideOneOrTwoHeads_28 rfl (fun h28 => ?_) (fun h28 => ?_)
      · -- 28 jump
        have hk3 : ¬ k < 24 := by have := (nI_leI (a := 24) (b := k) (by omega) (by omega)).mp h28; omega
        rw [bsG_0 hk3] at hI
        refine j_iload_n B d_G_besideOneOrTwoHeads_117 rfl 2 rfl ?_
        refine j_iload B d_G_besideOneOrTwoHeads_118 4 rfl ?_
        refine j_iconst (v := (-1)) B d_G_besideOneOrTwoHeads_120 (by decide) ?_
        refine j_ixor B d_G_besideOneOrTwoHeads_121 ?_
        refine j_iand B d_G_besideOneOrTwoHeads_122 ?_
        exact j_iret B K (by have hI2 : (o, t2, t3) = bsG F0 (R + 2 - (R - 1)) (R - 1) (0, 0, 0) := hI; simp only [bsd, ← hI2]) rfl d_G_besideOneOrTwoHeads_123
      · -- 28 on
        have hk3 : k < 24 := (Nat.lt_or_ge k 24).elim id (fun q => absurd (nI_le q (by omega)) h28)
        have hk4 : bsG F0 (R + 2 - k) k (o, t2, t3) = bsG F0 (R + 2 - (k + 1)) (k + 1) (bsR (F0 k) (o, t2, t3)) := by rw [show R + 2 - k = (R + 2 - (k + 1)) + 1 by omega]; exact if_pos hk3
        refine j_iconst (v := 0) B d_G_besideOneOrTwoHeads_31 (by decide) ?_
        refine j_istore (L' := [(0, .ref (b + g)), (1, .int (nI R)), (2, .int o), (3, .int t2), (4, .int t3), (5, .int (nI k)), (6, .int 0)]) B d_G_besideOneOrTwoHeads_32 (by decide) [1, 2, 3, 4, 5, 6, 0] rfl ?_
        refine j_iload B d_G_besideOneOrTwoHeads_34 6 rfl ?_
        refine j_iconst (v := 3) B d_G_besideOneOrTwoHeads_36 (by decide) ?_
        refine j_icmp_ge B d_G_besideOneOrTwoHeads_37 rfl (fun h37 => absurd h37 (by decide)) (fun h37 => ?_)
        refine j_iload B d_G_besideOneOrTwoHeads_40 6 rfl ?_
        refine j_if_ne B d_G_besideOneOrTwoHeads_42 rfl (fun h42 => absurd rfl h42) (fun h42 => ?_)
        refine j_aload_n B d_G_besideOneOrTwoHeads_45 rfl 0 rfl ?_
        refine gf_G_9 B hg rfl d_G_besideOneOrTwoHeads_46 ?_
        refine j_iload B d_G_besideOneOrTwoHeads_49 5 rfl ?_
        refine j_ialdN B rfl hh (by omega) d_G_besideOneOrTwoHeads_51 ?_
        refine j_iconst (v := 1) B d_G_besideOneOrTwoHeads_52 (by decide) ?_
        refine j_ishl B d_G_besideOneOrTwoHeads_53 ?_
        refine j_goto B d_G_besideOneOrTwoHeads_54 rfl ?_
        refine j_istore (L' := [(0, .ref (b + g)), (1, .int (nI R)), (2, .int o), (3, .int t2), (4, .int t3), (5, .int (nI k)), (6, .int 0), (7, .int ((F0 k) <<< (1 &&& 31)))]) B d_G_besideOneOrTwoHeads_82 (by decide) [1, 2, 3, 4, 5, 6, 7, 0] rfl ?_
        refine j_iload B d_G_besideOneOrTwoHeads_84 4 rfl ?_
        refine j_iload_n B d_G_besideOneOrTwoHeads_86 rfl 3 rfl ?_
        refine j_iload B d_G_besideOneOrTwoHeads_87 7 rfl ?_
        refine j_iand B d_G_besideOneOrTwoHeads_89 ?_
        refine j_ior B d_G_besideOneOrTwoHeads_90 ?_
        refine j_istore (L' := [(0, .ref (b + g)), (1, .int (nI R)), (2, .int o), (3, .int t2), (4, .int (t3 ||| (t2 &&& ((F0 k) <<< (1 &&& 31))))), (5, .int (nI k)), (6, .int 0), (7, .int ((F0 k) <<< (1 &&& 31)))]) B d_G_besideOneOrTwoHeads_91 (by decide) [1, 2, 3, 4, 0, 5, 6, 7] rfl ?_
        refine j_iload_n B d_G_besideOneOrTwoHeads_93 rfl 3 rfl ?_
        refine j_iload_n B d_G_besideOneOrTwoHeads_94 rfl 2 rfl ?_
        refine j_iload B d_G_besideOneOrTwoHeads_95 7 rfl ?_
        refine j_iand B d_G_besideOneOrTwoHeads_97 ?_
        refine j_ior B d_G_besideOneOrTwoHeads_98 ?_
        refine j_istore_n (L' := [(0, .ref (b + g)), (1, .int (nI R)), (2, .int o), (3, .int (t2 ||| (o &&& ((F0 k) <<< (1 &&& 31))))), (4, .int (t3 ||| (t2 &&& ((F0 k) <<< (1 &&& 31))))), (5, .int (nI k)), (6, .int 0), (7, .int ((F0 k) <<< (1 &&& 31)))]) B d_G_besideOneOrTwoHeads_99 rfl (by decide) [1, 2, 3, 0, 4, 5, 6, 7] rfl ?_
        refine j_iload_n B d_G_besideOneOrTwoHeads_100 rfl 2 rfl ?_
        refine j_iload B d_G_besideOneOrTwoHeads_101 7 rfl ?_
        refine j_ior B d_G_besideOneOrTwoHeads_103 ?_
        refine j_istore_n (L' := [(0, .ref (b + g)), (1, .int (nI R)), (2, .int (o ||| ((F0 k) <<< (1 &&& 31)))), (3, .int (t2 ||| (o &&& ((F0 k) <<< (1 &&& 31))))), (4, .int (t3 ||| (t2 &&& ((F0 k) <<< (1 &&& 31))))), (5, .int (nI k)), (6, .int 0), (7, .int ((F0 k) <<< (1 &&& 31)))]) B d_G_besideOneOrTwoHeads_104 rfl (by decide) [1, 2, 0, 3, 4, 5, 6, 7] rfl ?_
        refine j_iinc (L' := [(0, .ref (b + g)), (1, .int (nI R)), (2, .int (o ||| ((F0 k) <<< (1 &&& 31)))), (3, .int (t2 ||| (o &&& ((F0 k) <<< (1 &&& 31))))), (4, .int (t3 ||| (t2 &&& ((F0 k) <<< (1 &&& 31))))), (5, .int (nI k)), (6, .int 1), (7, .int ((F0 k) <<< (1 &&& 31)))]) (v := 1) B d_G_besideOneOrTwoHeads_105 (k := 6) rfl rfl (by decide) [1, 2, 3, 4, 5, 6, 0, 7] rfl ?_
        refine j_goto B d_G_besideOneOrTwoHeads_108 rfl ?_
        refine j_iload B d_G_besideOneOrTwoHeads_34 6 rfl ?_
        refine j_iconst (v := 3) B d_G_besideOneOrTwoHeads_36 (by decide) ?_
        refine j_icmp_ge B d_G_besideOneOrTwoHeads_37 rfl (fun h37 => absurd h37 (by decide)) (fun h37 => ?_)
        refine j_iload B d_G_besideOneOrTwoHeads_40 6 rfl ?_
        refine j_if_ne B d_G_besideOneOrTwoHeads_42 rfl (fun h42 => ?_) (fun h42 => absurd h42 (by decide))
        refine j_iload B d_G_besideOneOrTwoHeads_57 6 rfl ?_
        refine j_iconst (v := 1) B d_G_besideOneOrTwoHeads_59 (by decide) ?_
        refine j_icmp_ne B d_G_besideOneOrTwoHeads_60 rfl (fun h60 => absurd rfl h60) (fun h60 => ?_)
        refine j_aload_n B d_G_besideOneOrTwoHeads_63 rfl 0 rfl ?_
        refine gf_G_9 B hg rfl d_G_besideOneOrTwoHeads_64 ?_
        refine j_iload B d_G_besideOneOrTwoHeads_67 5 rfl ?_
        refine j_ialdN B rfl hh (by omega) d_G_besideOneOrTwoHeads_69 ?_
        refine j_goto B d_G_besideOneOrTwoHeads_70 rfl ?_
        refine j_istore (L' := [(0, .ref (b + g)), (1, .int (nI R)), (2, .int (o ||| ((F0 k) <<< (1 &&& 31)))), (3, .int (t2 ||| (o &&& ((F0 k) <<< (1 &&& 31))))), (4, .int (t3 ||| (t2 &&& ((F0 k) <<< (1 &&& 31))))), (5, .int (nI k)), (6, .int 1), (7, .int (F0 k))]) B d_G_besideOneOrTwoHeads_82 (by decide) [1, 2, 3, 4, 5, 6, 7, 0] rfl ?_
        refine j_iload B d_G_besideOneOrTwoHeads_84 4 rfl ?_
        refine j_iload_n B d_G_besideOneOrTwoHeads_86 rfl 3 rfl ?_
        refine j_iload B d_G_besideOneOrTwoHeads_87 7 rfl ?_
        refine j_iand B d_G_besideOneOrTwoHeads_89 ?_
        refine j_ior B d_G_besideOneOrTwoHeads_90 ?_
        refine j_istore (L' := [(0, .ref (b + g)), (1, .int (nI R)), (2, .int (o ||| ((F0 k) <<< (1 &&& 31)))), (3, .int (t2 ||| (o &&& ((F0 k) <<< (1 &&& 31))))), (4, .int ((t3 ||| (t2 &&& ((F0 k) <<< (1 &&& 31)))) ||| ((t2 ||| (o &&& ((F0 k) <<< (1 &&& 31)))) &&& (F0 k)))), (5, .int (nI k)), (6, .int 1), (7, .int (F0 k))]) B d_G_besideOneOrTwoHeads_91 (by decide) [1, 2, 3, 4, 0, 5, 6, 7] rfl ?_
        refine j_iload_n B d_G_besideOneOrTwoHeads_93 rfl 3 rfl ?_
        refine j_iload_n B d_G_besideOneOrTwoHeads_94 rfl 2 rfl ?_
        refine j_iload B d_G_besideOneOrTwoHeads_95 7 rfl ?_
        refine j_iand B d_G_besideOneOrTwoHeads_97 ?_
        refine j_ior B d_G_besideOneOrTwoHeads_98 ?_
        refine j_istore_n (L' := [(0, .ref (b + g)), (1, .int (nI R)), (2, .int (o ||| ((F0 k) <<< (1 &&& 31)))), (3, .int ((t2 ||| (o &&& ((F0 k) <<< (1 &&& 31)))) ||| ((o ||| ((F0 k) <<< (1 &&& 31))) &&& (F0 k)))), (4, .int ((t3 ||| (t2 &&& ((F0 k) <<< (1 &&& 31)))) ||| ((t2 ||| (o &&& ((F0 k) <<< (1 &&& 31)))) &&& (F0 k)))), (5, .int (nI k)), (6, .int 1), (7, .int (F0 k))]) B d_G_besideOneOrTwoHeads_99 rfl (by decide) [1, 2, 3, 0, 4, 5, 6, 7] rfl ?_
        refine j_iload_n B d_G_besideOneOrTwoHeads_100 rfl 2 rfl ?_
        refine j_iload B d_G_besideOneOrTwoHeads_101 7 rfl ?_
        refine j_ior B d_G_besideOneOrTwoHeads_103 ?_
        refine j_istore_n (L' := [(0, .ref (b + g)), (1, .int (nI R)), (2, .int ((o ||| ((F0 k) <<< (1 &&& 31))) ||| (F0 k))), (3, .int ((t2 ||| (o &&& ((F0 k) <<< (1 &&& 31)))) ||| ((o ||| ((F0 k) <<< (1 &&& 31))) &&& (F0 k)))), (4, .int ((t3 ||| (t2 &&& ((F0 k) <<< (1 &&& 31)))) ||| ((t2 ||| (o &&& ((F0 k) <<< (1 &&& 31)))) &&& (F0 k)))), (5, .int (nI k)), (6, .int 1), (7, .int (F0 k))]) B d_G_besideOneOrTwoHeads_104 rfl (by decide) [1, 2, 0, 3, 4, 5, 6, 7] rfl ?_
        refine j_iinc (L' := [(0, .ref (b + g)), (1, .int (nI R)), (2, .int ((o ||| ((F0 k) <<< (1 &&& 31))) ||| (F0 k))), (3, .int ((t2 ||| (o &&& ((F0 k) <<< (1 &&& 31)))) ||| ((o ||| ((F0 k) <<< (1 &&& 31))) &&& (F0 k)))), (4, .int ((t3 ||| (t2 &&& ((F0 k) <<< (1 &&& 31)))) ||| ((t2 ||| (o &&& ((F0 k) <<< (1 &&& 31)))) &&& (F0 k)))), (5, .int (nI k)), (6, .int 2), (7, .int (F0 k))]) (v := 2) B d_G_besideOneOrTwoHeads_105 (k := 6) rfl rfl (by decide) [1, 2, 3, 4, 5, 6, 0, 7] rfl ?_
        refine j_goto B d_G_besideOneOrTwoHeads_108 rfl ?_
        refine j_iload B d_G_besideOneOrTwoHeads_34 6 rfl ?_
        refine j_iconst (v := 3) B d_G_besideOneOrTwoHeads_36 (by decide) ?_
        refine j_icmp_ge B d_G_besideOneOrTwoHeads_37 rfl (fun h37 => absurd h37 (by decide)) (fun h37 => ?_)
        refine j_iload B d_G_besideOneOrTwoHeads_40 6 rfl ?_
        refine j_if_ne B d_G_besideOneOrTwoHeads_42 rfl (fun h42 => ?_) (fun h42 => absurd h42 (by decide))
        refine j_iload B d_G_besideOneOrTwoHeads_57 6 rfl ?_
        refine j_iconst (v := 1) B d_G_besideOneOrTwoHeads_59 (by decide) ?_
        refine j_icmp_ne B d_G_besideOneOrTwoHeads_60 rfl (fun h60 => ?_) (fun h60 => absurd h60 (by decide))
        refine j_aload_n B d_G_besideOneOrTwoHeads_73 rfl 0 rfl ?_
        refine gf_G_9 B hg rfl d_G_besideOneOrTwoHeads_74 ?_
        refine j_iload B d_G_besideOneOrTwoHeads_77 5 rfl ?_
        refine j_ialdN B rfl hh (by omega) d_G_besideOneOrTwoHeads_79 ?_
        refine j_iconst (v := 1) B d_G_besideOneOrTwoHeads_80 (by decide) ?_
        refine j_iushr B d_G_besideOneOrTwoHeads_81 rfl ?_
        refine j_istore (L' := [(0, .ref (b + g)), (1, .int (nI R)), (2, .int ((o ||| ((F0 k) <<< (1 &&& 31))) ||| (F0 k))), (3, .int ((t2 ||| (o &&& ((F0 k) <<< (1 &&& 31)))) ||| ((o ||| ((F0 k) <<< (1 &&& 31))) &&& (F0 k)))), (4, .int ((t3 ||| (t2 &&& ((F0 k) <<< (1 &&& 31)))) ||| ((t2 ||| (o &&& ((F0 k) <<< (1 &&& 31)))) &&& (F0 k)))), (5, .int (nI k)), (6, .int 2), (7, .int (((F0 k).toUInt32 >>> ((1 : Int32).toUInt32 &&& Int32.toUInt32 31)).toInt32))]) B d_G_besideOneOrTwoHeads_82 (by decide) [1, 2, 3, 4, 5, 6, 7, 0] rfl ?_
        refine j_iload B d_G_besideOneOrTwoHeads_84 4 rfl ?_
        refine j_iload_n B d_G_besideOneOrTwoHeads_86 rfl 3 rfl ?_
        refine j_iload B d_G_besideOneOrTwoHeads_87 7 rfl ?_
        refine j_iand B d_G_besideOneOrTwoHeads_89 ?_
        refine j_ior B d_G_besideOneOrTwoHeads_90 ?_
        refine j_istore (L' := [(0, .ref (b + g)), (1, .int (nI R)), (2, .int ((o ||| ((F0 k) <<< (1 &&& 31))) ||| (F0 k))), (3, .int ((t2 ||| (o &&& ((F0 k) <<< (1 &&& 31)))) ||| ((o ||| ((F0 k) <<< (1 &&& 31))) &&& (F0 k)))), (4, .int (((t3 ||| (t2 &&& ((F0 k) <<< (1 &&& 31)))) ||| ((t2 ||| (o &&& ((F0 k) <<< (1 &&& 31)))) &&& (F0 k))) ||| (((t2 ||| (o &&& ((F0 k) <<< (1 &&& 31)))) ||| ((o ||| ((F0 k) <<< (1 &&& 31))) &&& (F0 k))) &&& (((F0 k).toUInt32 >>> ((1 : Int32).toUInt32 &&& Int32.toUInt32 31)).toInt32)))), (5, .int (nI k)), (6, .int 2), (7, .int (((F0 k).toUInt32 >>> ((1 : Int32).toUInt32 &&& Int32.toUInt32 31)).toInt32))]) B d_G_besideOneOrTwoHeads_91 (by decide) [1, 2, 3, 4, 0, 5, 6, 7] rfl ?_
        refine j_iload_n B d_G_besideOneOrTwoHeads_93 rfl 3 rfl ?_
        refine j_iload_n B d_G_besideOneOrTwoHeads_94 rfl 2 rfl ?_
        refine j_iload B d_G_besideOneOrTwoHeads_95 7 rfl ?_
        refine j_iand B d_G_besideOneOrTwoHeads_97 ?_
        refine j_ior B d_G_besideOneOrTwoHeads_98 ?_
        refine j_istore_n (L' := [(0, .ref (b + g)), (1, .int (nI R)), (2, .int ((o ||| ((F0 k) <<< (1 &&& 31))) ||| (F0 k))), (3, .int (((t2 ||| (o &&& ((F0 k) <<< (1 &&& 31)))) ||| ((o ||| ((F0 k) <<< (1 &&& 31))) &&& (F0 k))) ||| (((o ||| ((F0 k) <<< (1 &&& 31))) ||| (F0 k)) &&& (((F0 k).toUInt32 >>> ((1 : Int32).toUInt32 &&& Int32.toUInt32 31)).toInt32)))), (4, .int (((t3 ||| (t2 &&& ((F0 k) <<< (1 &&& 31)))) ||| ((t2 ||| (o &&& ((F0 k) <<< (1 &&& 31)))) &&& (F0 k))) ||| (((t2 ||| (o &&& ((F0 k) <<< (1 &&& 31)))) ||| ((o ||| ((F0 k) <<< (1 &&& 31))) &&& (F0 k))) &&& (((F0 k).toUInt32 >>> ((1 : Int32).toUInt32 &&& Int32.toUInt32 31)).toInt32)))), (5, .int (nI k)), (6, .int 2), (7, .int (((F0 k).toUInt32 >>> ((1 : Int32).toUInt32 &&& Int32.toUInt32 31)).toInt32))]) B d_G_besideOneOrTwoHeads_99 rfl (by decide) [1, 2, 3, 0, 4, 5, 6, 7] rfl ?_
        refine j_iload_n B d_G_besideOneOrTwoHeads_100 rfl 2 rfl ?_
        refine j_iload B d_G_besideOneOrTwoHeads_101 7 rfl ?_
        refine j_ior B d_G_besideOneOrTwoHeads_103 ?_
        refine j_istore_n (L' := [(0, .ref (b + g)), (1, .int (nI R)), (2, .int (((o ||| ((F0 k) <<< (1 &&& 31))) ||| (F0 k)) ||| (((F0 k).toUInt32 >>> ((1 : Int32).toUInt32 &&& Int32.toUInt32 31)).toInt32))), (3, .int (((t2 ||| (o &&& ((F0 k) <<< (1 &&& 31)))) ||| ((o ||| ((F0 k) <<< (1 &&& 31))) &&& (F0 k))) ||| (((o ||| ((F0 k) <<< (1 &&& 31))) ||| (F0 k)) &&& (((F0 k).toUInt32 >>> ((1 : Int32).toUInt32 &&& Int32.toUInt32 31)).toInt32)))), (4, .int (((t3 ||| (t2 &&& ((F0 k) <<< (1 &&& 31)))) ||| ((t2 ||| (o &&& ((F0 k) <<< (1 &&& 31)))) &&& (F0 k))) ||| (((t2 ||| (o &&& ((F0 k) <<< (1 &&& 31)))) ||| ((o ||| ((F0 k) <<< (1 &&& 31))) &&& (F0 k))) &&& (((F0 k).toUInt32 >>> ((1 : Int32).toUInt32 &&& Int32.toUInt32 31)).toInt32)))), (5, .int (nI k)), (6, .int 2), (7, .int (((F0 k).toUInt32 >>> ((1 : Int32).toUInt32 &&& Int32.toUInt32 31)).toInt32))]) B d_G_besideOneOrTwoHeads_104 rfl (by decide) [1, 2, 0, 3, 4, 5, 6, 7] rfl ?_
        refine j_iinc (L' := [(0, .ref (b + g)), (1, .int (nI R)), (2, .int (((o ||| ((F0 k) <<< (1 &&& 31))) ||| (F0 k)) ||| (((F0 k).toUInt32 >>> ((1 : Int32).toUInt32 &&& Int32.toUInt32 31)).toInt32))), (3, .int (((t2 ||| (o &&& ((F0 k) <<< (1 &&& 31)))) ||| ((o ||| ((F0 k) <<< (1 &&& 31))) &&& (F0 k))) ||| (((o ||| ((F0 k) <<< (1 &&& 31))) ||| (F0 k)) &&& (((F0 k).toUInt32 >>> ((1 : Int32).toUInt32 &&& Int32.toUInt32 31)).toInt32)))), (4, .int (((t3 ||| (t2 &&& ((F0 k) <<< (1 &&& 31)))) ||| ((t2 ||| (o &&& ((F0 k) <<< (1 &&& 31)))) &&& (F0 k))) ||| (((t2 ||| (o &&& ((F0 k) <<< (1 &&& 31)))) ||| ((o ||| ((F0 k) <<< (1 &&& 31))) &&& (F0 k))) &&& (((F0 k).toUInt32 >>> ((1 : Int32).toUInt32 &&& Int32.toUInt32 31)).toInt32)))), (5, .int (nI k)), (6, .int 3), (7, .int (((F0 k).toUInt32 >>> ((1 : Int32).toUInt32 &&& Int32.toUInt32 31)).toInt32))]) (v := 3) B d_G_besideOneOrTwoHeads_105 (k := 6) rfl rfl (by decide) [1, 2, 3, 4, 5, 6, 0, 7] rfl ?_
        refine j_goto B d_G_besideOneOrTwoHeads_108 rfl ?_
        refine j_iload B d_G_besideOneOrTwoHeads_34 6 rfl ?_
        refine j_iconst (v := 3) B d_G_besideOneOrTwoHeads_36 (by decide) ?_
        refine j_icmp_ge B d_G_besideOneOrTwoHeads_37 rfl (fun h37 => ?_) (fun h37 => absurd (by decide) h37)
        refine j_iinc (L' := [(0, .ref (b + g)), (1, .int (nI R)), (2, .int (((o ||| ((F0 k) <<< (1 &&& 31))) ||| (F0 k)) ||| (((F0 k).toUInt32 >>> ((1 : Int32).toUInt32 &&& Int32.toUInt32 31)).toInt32))), (3, .int (((t2 ||| (o &&& ((F0 k) <<< (1 &&& 31)))) ||| ((o ||| ((F0 k) <<< (1 &&& 31))) &&& (F0 k))) ||| (((o ||| ((F0 k) <<< (1 &&& 31))) ||| (F0 k)) &&& (((F0 k).toUInt32 >>> ((1 : Int32).toUInt32 &&& Int32.toUInt32 31)).toInt32)))), (4, .int (((t3 ||| (t2 &&& ((F0 k) <<< (1 &&& 31)))) ||| ((t2 ||| (o &&& ((F0 k) <<< (1 &&& 31)))) &&& (F0 k))) ||| (((t2 ||| (o &&& ((F0 k) <<< (1 &&& 31)))) ||| ((o ||| ((F0 k) <<< (1 &&& 31))) &&& (F0 k))) &&& (((F0 k).toUInt32 >>> ((1 : Int32).toUInt32 &&& Int32.toUInt32 31)).toInt32)))), (5, .int (nI (k + 1))), (6, .int 3), (7, .int (((F0 k).toUInt32 >>> ((1 : Int32).toUInt32 &&& Int32.toUInt32 31)).toInt32))]) (v := nI (k + 1)) B d_G_besideOneOrTwoHeads_111 (k := 5) rfl (nI_succ k).symm (by decide) [1, 2, 3, 4, 5, 0, 6, 7] rfl ?_
        refine j_goto B d_G_besideOneOrTwoHeads_114 rfl ?_
        refine jW.sub (L' := [(0, .ref (b + g)), (1, .int (nI R)), (2, .int (((o ||| ((F0 k) <<< (1 &&& 31))) ||| (F0 k)) ||| (((F0 k).toUInt32 >>> ((1 : Int32).toUInt32 &&& Int32.toUInt32 31)).toInt32))), (3, .int (((t2 ||| (o &&& ((F0 k) <<< (1 &&& 31)))) ||| ((o ||| ((F0 k) <<< (1 &&& 31))) &&& (F0 k))) ||| (((o ||| ((F0 k) <<< (1 &&& 31))) ||| (F0 k)) &&& (((F0 k).toUInt32 >>> ((1 : Int32).toUInt32 &&& Int32.toUInt32 31)).toInt32)))), (4, .int (((t3 ||| (t2 &&& ((F0 k) <<< (1 &&& 31)))) ||| ((t2 ||| (o &&& ((F0 k) <<< (1 &&& 31)))) &&& (F0 k))) ||| (((t2 ||| (o &&& ((F0 k) <<< (1 &&& 31)))) ||| ((o ||| ((F0 k) <<< (1 &&& 31))) &&& (F0 k))) &&& (((F0 k).toUInt32 >>> ((1 : Int32).toUInt32 &&& Int32.toUInt32 31)).toInt32)))), (5, .int (nI (k + 1)))]) [0, 1, 2, 3, 4, 5] rfl ?_; exact ih _ (by omega) (k + 1) (((o ||| ((F0 k) <<< (1 &&& 31))) ||| (F0 k)) ||| (((F0 k).toUInt32 >>> ((1 : Int32).toUInt32 &&& Int32.toUInt32 31)).toInt32)) (((t2 ||| (o &&& ((F0 k) <<< (1 &&& 31)))) ||| ((o ||| ((F0 k) <<< (1 &&& 31))) &&& (F0 k))) ||| (((o ||| ((F0 k) <<< (1 &&& 31))) ||| (F0 k)) &&& (((F0 k).toUInt32 >>> ((1 : Int32).toUInt32 &&& Int32.toUInt32 31)).toInt32))) (((t3 ||| (t2 &&& ((F0 k) <<< (1 &&& 31)))) ||| ((t2 ||| (o &&& ((F0 k) <<< (1 &&& 31)))) &&& (F0 k))) ||| (((t2 ||| (o &&& ((F0 k) <<< (1 &&& 31)))) ||| ((o ||| ((F0 k) <<< (1 &&& 31))) &&& (F0 k))) &&& (((F0 k).toUInt32 >>> ((1 : Int32).toUInt32 &&& Int32.toUInt32 31)).toInt32))) rfl (by omega) (by rw [← hI, hk4]; rfl)
  exact lp16 _ (R - 1) 0 0 0 rfl (by omega) rfl
set_option maxRecDepth 100000 in
set_option maxHeartbeats 4000000 in
theorem c_G_becomeGenerationAfter {l : Launch} {b : Nat} {D : va_G} {ta : Nat → ClassId} {σ : List va_E} {g h t w g2 h2 t2 w2 : Nat} {F0 F1 F2 E0 E1 E2 : Nat → Int32} (hg : σ[g]? = some (.inr (0, [.ref (b + h), .ref (b + t), .ref (b + w)]))) (hh : σ[h]? = some (.inl (ta 0, 24, .inl F0))) (ht : σ[t]? = some (.inl (ta 0, 24, .inl F1))) (hw : σ[w]? = some (.inl (ta 0, 24, .inl F2))) (hg2 : σ[g2]? = some (.inr (0, [.ref (b + h2), .ref (b + t2), .ref (b + w2)]))) (hh2 : σ[h2]? = some (.inl (ta 0, 24, .inl E0))) (ht2 : σ[t2]? = some (.inl (ta 0, 24, .inl E1))) (hw2 : σ[w2]? = some (.inl (ta 0, 24, .inl E2))) (nhg : h ≠ g) (nht : h ≠ t) (nhw : h ≠ w) (nhg2 : h ≠ g2) (nhh2 : h ≠ h2) (nht2 : h ≠ t2) (nhw2 : h ≠ w2) (ntg : t ≠ g) (ntw : t ≠ w) (ntg2 : t ≠ g2) (nth2 : t ≠ h2) (ntt2 : t ≠ t2) (ntw2 : t ≠ w2) (nwg : w ≠ g) (nwg2 : w ≠ g2) (nwh2 : w ≠ h2) (nwt2 : w ≠ t2) (nww2 : w ≠ w2) (z0 : Z24 E0) (z1 : Z24 E1) (z2 : Z24 E2) (y0 : Z24 F0) (y1 : Z24 F1) (y2 : Z24 F2) : jC l b D ta False y_G_becomeGenerationAfter b_G_becomeGenerationAfter 4 none (rL 2) [.ref (b + g), .ref (b + g2)] (σ) none (((σ.set h (.inl (ta 0, 24, .inl (nxH E0 E2)))).set t (.inl (ta 0, 24, .inl E0))).set w (.inl (ta 0, 24, .inl (nxW E0 E1 E2)))) := by
  refine jC_of (own := "WireField$Grid") (by decide +kernel) (Nat.le_of_ble_eq_true rfl) rfl (fun Γ B K => ?_)
  change jW l b D Γ False 0 0 4 (σ) [(0, .ref (b + g)), (1, .ref (b + g2))] 0 []
  refine j_iconst (v := 0) B d_G_becomeGenerationAfter_0 (by decide) ?_
  refine j_istore_n (L' := [(0, .ref (b + g)), (1, .ref (b + g2)), (2, .int 0)]) B d_G_becomeGenerationAfter_1 rfl (by decide) [1, 2, 0] rfl ?_
  have lp2 : ∀ (n : Nat) (k : Nat), 24 - k = n → (k ≤ 24) → jW l b D Γ False 0 0 4 (((σ.set h (.inl (ta 0, 24, .inl (gUp (nxH E0 E2) F0 k)))).set t (.inl (ta 0, 24, .inl (gUp E0 F1 k)))).set w (.inl (ta 0, 24, .inl (gUp (nxW E0 E1 E2) F2 k)))) [(0, .ref (b + g)), (1, .ref (b + g2)), (2, .int (nI k))] 2 [] := by
    refine jloop (fun n ih => ?_)
    intro k hn hk
    refine j_iload_n B d_G_becomeGenerationAfter_2 rfl 2 rfl ?_
    refine j_bipush (v := 24) B d_G_becomeGenerationAfter_3 (by decide) ?_
    refine j_icmp_ge B d_G_becomeGenerationAfter_5 rfl (fun h5 => ?_) (fun h5 => ?_)
    · -- 5 jump
      have hk24 := lp_ge (n := 24) (by decide) hk h5
      subst hk24
      exact j_vret B K (by rw [gUp_e nxH_z y0, gUp_e z0 y1, gUp_e (nxW_z z1 z2) y2]) d_G_becomeGenerationAfter_69
    · -- 5 on
      have hk24 := lp_lt (n := 24) (by decide) hk h5
      refine j_aload_n B d_G_becomeGenerationAfter_8 rfl 1 rfl ?_
      refine gf_G_18 B (jn nwg2 (jn ntg2 (jn nhg2 hg2))) rfl d_G_becomeGenerationAfter_9 ?_
      refine j_iload_n B d_G_becomeGenerationAfter_12 rfl 2 rfl ?_
      refine j_ialdN B rfl (jn nww2 (jn ntw2 (jn nhw2 hw2))) (by omega) d_G_becomeGenerationAfter_13 ?_
      refine j_aload_n B d_G_becomeGenerationAfter_14 rfl 1 rfl ?_
      refine j_iload_n B d_G_becomeGenerationAfter_15 rfl 2 rfl ?_
      refine k_callV (as := [.int (nI k)]) (rest := [.int (E2 k)]) (st1 := [.int (bsd E0 k), .int (E2 k)]) B (c_G_besideOneOrTwoHeads (jn nwg2 (jn ntg2 (jn nhg2 hg2))) (jn nwh2 (jn nth2 (jn nhh2 hh2))) (jn nwt2 (jn ntt2 (jn nht2 ht2))) (jn nww2 (jn ntw2 (jn nhw2 hw2))) (by omega)) yf_G_besideOneOrTwoHeads w_318 w_320 w_s5 rfl (jn nwg2 (jn ntg2 (jn nhg2 hg2))) rfl (by decide) (by decide) rfl rfl (Nat.le_of_ble_eq_true rfl) d_G_becomeGenerationAfter_16 ?_
      refine j_iand B d_G_becomeGenerationAfter_19 ?_
      refine j_istore_n (L' := [(0, .ref (b + g)), (1, .ref (b + g2)), (2, .int (nI k)), (3, .int ((E2 k) &&& (bsd E0 k)))]) B d_G_becomeGenerationAfter_20 rfl (by decide) [1, 2, 3, 0] rfl ?_
      refine j_aload_n B d_G_becomeGenerationAfter_21 rfl 0 rfl ?_
      refine gf_G_9 B (jn nwg (jn ntg (jn nhg hg))) rfl d_G_becomeGenerationAfter_22 ?_
      refine j_iload_n B d_G_becomeGenerationAfter_25 rfl 2 rfl ?_
      refine j_iload_n B d_G_becomeGenerationAfter_26 rfl 3 rfl ?_
      refine j_iastN B not_false rfl (jn nhw.symm (jn nht.symm (js hh))) (by omega) d_G_becomeGenerationAfter_27 ?_
      refine j_aload_n B d_G_becomeGenerationAfter_28 rfl 0 rfl ?_
      refine gf_G_15 B (jn nhg (jn nwg (jn ntg (jn nhg hg)))) rfl d_G_becomeGenerationAfter_29 ?_
      refine j_iload_n B d_G_becomeGenerationAfter_32 rfl 2 rfl ?_
      refine j_aload_n B d_G_becomeGenerationAfter_33 rfl 1 rfl ?_
      refine gf_G_9 B (jn nhg2 (jn nwg2 (jn ntg2 (jn nhg2 hg2)))) rfl d_G_becomeGenerationAfter_34 ?_
      refine j_iload_n B d_G_becomeGenerationAfter_37 rfl 2 rfl ?_
      refine j_ialdN B rfl (jn nhh2 (jn nwh2 (jn nth2 (jn nhh2 hh2)))) (by omega) d_G_becomeGenerationAfter_38 ?_
      refine j_iastN B not_false rfl (jn nht (jn ntw.symm (js (jn nht ht)))) (by omega) d_G_becomeGenerationAfter_39 ?_
      refine j_aload_n B d_G_becomeGenerationAfter_40 rfl 0 rfl ?_
      refine gf_G_18 B (jn ntg (jn nhg (jn nwg (jn ntg (jn nhg hg))))) rfl d_G_becomeGenerationAfter_41 ?_
      refine j_iload_n B d_G_becomeGenerationAfter_44 rfl 2 rfl ?_
      refine j_aload_n B d_G_becomeGenerationAfter_45 rfl 1 rfl ?_
      refine gf_G_18 B (jn ntg2 (jn nhg2 (jn nwg2 (jn ntg2 (jn nhg2 hg2))))) rfl d_G_becomeGenerationAfter_46 ?_
      refine j_iload_n B d_G_becomeGenerationAfter_49 rfl 2 rfl ?_
      refine j_ialdN B rfl (jn ntw2 (jn nhw2 (jn nww2 (jn ntw2 (jn nhw2 hw2))))) (by omega) d_G_becomeGenerationAfter_50 ?_
      refine j_iload_n B d_G_becomeGenerationAfter_51 rfl 3 rfl ?_
      refine j_iconst (v := (-1)) B d_G_becomeGenerationAfter_52 (by decide) ?_
      refine j_ixor B d_G_becomeGenerationAfter_53 ?_
      refine j_iand B d_G_becomeGenerationAfter_54 ?_
      refine j_aload_n B d_G_becomeGenerationAfter_55 rfl 1 rfl ?_
      refine gf_G_15 B (jn ntg2 (jn nhg2 (jn nwg2 (jn ntg2 (jn nhg2 hg2))))) rfl d_G_becomeGenerationAfter_56 ?_
      refine j_iload_n B d_G_becomeGenerationAfter_59 rfl 2 rfl ?_
      refine j_ialdN B rfl (jn ntt2 (jn nht2 (jn nwt2 (jn ntt2 (jn nht2 ht2))))) (by omega) d_G_becomeGenerationAfter_60 ?_
      refine j_ior B d_G_becomeGenerationAfter_61 ?_
      refine j_iastN B not_false rfl (jn ntw (jn nhw (js (jn ntw (jn nhw hw))))) (by omega) d_G_becomeGenerationAfter_62 ?_
      refine j_iinc (L' := [(0, .ref (b + g)), (1, .ref (b + g2)), (2, .int (nI (k + 1))), (3, .int ((E2 k) &&& (bsd E0 k)))]) (v := nI (k + 1)) B d_G_becomeGenerationAfter_63 (k := 2) rfl (nI_succ k).symm (by decide) [1, 2, 0, 3] rfl ?_
      refine j_goto B d_G_becomeGenerationAfter_66 rfl ?_
      refine jW.sub (L' := [(0, .ref (b + g)), (1, .ref (b + g2)), (2, .int (nI (k + 1)))]) [0, 1, 2] rfl ?_; refine jW.heap (σ2 := ((σ.set h (.inl (ta 0, 24, .inl (gUp (nxH E0 E2) F0 (k + 1))))).set t (.inl (ta 0, 24, .inl (gUp E0 F1 (k + 1))))).set w (.inl (ta 0, 24, .inl (gUp (nxW E0 E1 E2) F2 (k + 1))))) (by rw [s3 nht nhw ntw, gUp_s _ _ _ _ (nxH_at hk24).symm, gUp_s _ _ _ _ rfl, gUp_s _ _ _ _ (by simp only [nxW, nxH_at hk24])]) ?_; exact ih _ (by omega) (k + 1) rfl (by omega)
  refine jW.heap (σ2 := ((σ.set h (.inl (ta 0, 24, .inl (gUp (nxH E0 E2) F0 0)))).set t (.inl (ta 0, 24, .inl (gUp E0 F1 0)))).set w (.inl (ta 0, 24, .inl (gUp (nxW E0 E1 E2) F2 0)))) (by rw [gUp_0, gUp_0, gUp_0]; exact (s3_0 hh ht hw).symm) ?_
  exact lp2 _ 0 rfl (by omega)
end
section

/-! texts -/
def Fc (S : Nat → Int32) : Prop := ∀ k, narrow .char (.int (S k)) = .int (S k) ∧ fits .char (.int (S k)) = true
def Z60 (f : Nat → Int32) : Prop := ∀ k, 60 ≤ k → f k = 0
theorem z60 {f g : Nat → Int32} (hf : Z60 f) (hg : Z60 g) : va_cpy f g 0 0 60 = f := by
  funext k
  rcases Nat.lt_or_ge k 60 with h | h
  · rw [pk_cpy_in (Nat.zero_le _) (by omega)]; congr 1; omega
  · rw [pk_cpy_out (by omega), hf k h, hg k h]
/-- the sign at a place, 0 where there is none -/
def sg (S : Nat → Int32) (N k : Nat) : Int32 := if k < N then S k else 0
def dg (c : Int32) : Bool := decide (¬ c < 48 ∧ ¬ 57 < c)
def cl (c : Int32) : Bool := decide (c = 41 ∨ c = 93)
def dgA (S : Nat → Int32) (N k : Nat) : Nat := if dg (sg S N k) = true then (if dg (sg S N (k + 1)) = true then 2 else 1) else 0
theorem dgA_le (S : Nat → Int32) (N k : Nat) : dgA S N k ≤ 2 := by unfold dgA; split; (split <;> omega); omega
def tmA (S : Nat → Int32) (N k : Nat) : Int32 := if nI (dgA S N k) = 1 then sg S N k - 48 else if nI (dgA S N k) = 2 then (sg S N k - 48) * 10 + sg S N (k + 1) - 48 else 1
def hmF (S : Nat → Int32) (N : Nat) : Nat → Int32
  | 0 => 0
  | n + 1 => if sg S N n = 64 ∧ ¬ sg S N (n + 1) - 97 < 0 ∧ ¬ 4 ≤ sg S N (n + 1) - 97 then hmF S N n ||| (1 <<< ((sg S N (n + 1) - 97) &&& 31)) else hmF S N n
theorem sg_in {S : Nat → Int32} {N k : Nat} (h : ¬ sg S N k = 0) : k < N := by
  rcases Nat.lt_or_ge k N with q | q
  · exact q
  · exact absurd (if_neg (by omega)) h
/-- an end that may be wanting -/
def rI : Option Nat → Int32
  | none => -1
  | some k => nI k
def sing (c : Int32) : Bool := decide (c = 70 ∨ c = 66 ∨ c = 82 ∨ c = 76 ∨ c = 85 ∨ c = 68 ∨ c = 69 ∨ c = 87 ∨ c = 60)
def eoB (rec : Nat → Option Nat) (S : Nat → Int32) (N k : Nat) (c : Int32) : Option Nat := match rec k with
  | none => none
  | some e => if sg S N e = c then some (e + 1) else none
def eoO (rec : Nat → Option Nat) (S : Nat → Int32) (N Lt k : Nat) : Option Nat :=
  if sg S N k = 40 then eoB rec S N (k + 1) 41
  else if sg S N k = 91 then eoB rec S N (k + 1) 93
  else if sg S N k = 64 then (if ¬ sg S N (k + 1) - 97 < 0 ∧ ¬ nI Lt ≤ sg S N (k + 1) - 97 then some (k + 2) else none)
  else if sing (sg S N k) = true then some (k + 1) else none
def eoS (rec : Nat → Option Nat) (S : Nat → Int32) (N Lt : Nat) : Nat → Nat → Option Nat
  | 0, k => some k
  | f + 1, k => if k < N ∧ cl (sg S N k) = false then (match eoO rec S N Lt (k + dgA S N k) with
    | none => none
    | some e => eoS rec S N Lt f e) else some k
theorem eoS_s {rec : Nat → Option Nat} {S : Nat → Int32} {N Lt f k : Nat} : eoS rec S N Lt (f + 1) k = if k < N ∧ cl (sg S N k) = false then (match eoO rec S N Lt (k + dgA S N k) with
    | none => none
    | some e => eoS rec S N Lt f e) else some k := rfl
def eoD (S : Nat → Int32) (N Lt : Nat) : Nat → Nat → Option Nat
  | 0, _ => none
  | m + 1, k => eoS (eoD S N Lt m) S N Lt 60 k
theorem eoB_le {rec : Nat → Option Nat} {S : Nat → Int32} {N k e : Nat} {c : Int32} (hc : ¬ c = 0) (h : eoB rec S N k c = some e) : e ≤ N := by
  unfold eoB at h
  cases hr : rec k with
  | none => rw [hr] at h; cases h
  | some z =>
    rw [hr] at h
    by_cases hz : sg S N z = c
    · simp only [hz, if_true] at h
      have := sg_in (S := S) (N := N) (k := z) (by rw [hz]; exact hc)
      cases h
      omega
    · simp only [hz, if_false] at h
      cases h
theorem eoO_le {rec : Nat → Option Nat} {S : Nat → Int32} {N Lt k e : Nat} (h : eoO rec S N Lt k = some e) : e ≤ N := by
  unfold eoO at h
  split at h
  · exact eoB_le (by decide) h
  · split at h
    · exact eoB_le (by decide) h
    · split at h
      · rename_i h64
        split at h
        · rename_i hq
          have h2 : ¬ sg S N (k + 1) = 0 := fun q => hq.1 (by rw [q]; decide)
          have := sg_in h2
          cases h
          omega
        · cases h
      · split at h
        · rename_i hs
          have h2 : ¬ sg S N k = 0 := fun q => by rw [q] at hs; exact absurd hs (by decide)
          have := sg_in h2
          cases h
          omega
        · cases h
theorem eoS_le {rec : Nat → Option Nat} {S : Nat → Int32} {N Lt : Nat} : ∀ (f k e : Nat), k ≤ N → eoS rec S N Lt f k = some e → e ≤ N := by
  intro f
  induction f with
  | zero => intro k e hk h; cases h; exact hk
  | succ f ih =>
    intro k e hk h
    unfold eoS at h
    split at h
    · cases ho : eoO rec S N Lt (k + dgA S N k) with
      | none => rw [ho] at h; cases h
      | some z => rw [ho] at h; exact ih z e (eoO_le ho) h
    · cases h; exact hk
/-- the rest of the loop from an end on -/
def eoW (rec : Nat → Option Nat) (S : Nat → Int32) (N Lt f : Nat) : Option Nat → Option Nat
  | none => none
  | some k => eoS rec S N Lt f k
theorem rI_neg {a : Option Nat} (ha : ∀ k, a = some k → k ≤ 60) (h : rI a < 0) : a = none := by
  cases a with
  | none => rfl
  | some k => exact absurd h (nI_pos (by have := ha k rfl; omega))
theorem rI_pos {a : Option Nat} (h : ¬ rI a < 0) : ∃ k, a = some k := by
  cases a with
  | none => exact absurd (by decide) h
  | some k => exact ⟨k, rfl⟩
end
section
set_option maxRecDepth 100000 in
set_option maxHeartbeats 4000000 in
theorem c_Tx_isDigit {l : Launch} {b : Nat} {D : va_G} {ta : Nat → ClassId} {σ : List va_E} (c : Int32) : jC l b D ta False y_Tx_isDigit b_Tx_isDigit 1 (some .boolean) (rL 0) [.int c] (σ) (some (.int (bI (dg c)))) (σ) := by
  refine jC_of (own := "WireField$Text") (by decide +kernel) (Nat.le_of_ble_eq_true rfl) rfl (fun Γ B K => ?_)
  change jW l b D Γ False 0 0 1 (σ) [(0, .int c)] 0 []
  refine j_iload_n B d_Tx_isDigit_0 rfl 0 rfl ?_
  refine j_bipush (v := 48) B d_Tx_isDigit_1 (by decide) ?_
  refine j_icmp_lt B d_Tx_isDigit_3 rfl (fun h3 => ?_) (fun h3 => ?_)
  · -- 3 jump
    refine j_iconst (v := 0) B d_Tx_isDigit_16 (by decide) ?_
    exact j_zret B K (by decide) (by simp [bI, dg, h3]) rfl d_Tx_isDigit_17
  · -- 3 on
    refine j_iload_n B d_Tx_isDigit_6 rfl 0 rfl ?_
    refine j_bipush (v := 57) B d_Tx_isDigit_7 (by decide) ?_
    refine j_icmp_gt B d_Tx_isDigit_9 rfl (fun h9 => ?_) (fun h9 => ?_)
    · -- 9 jump
      refine j_iconst (v := 0) B d_Tx_isDigit_16 (by decide) ?_
      exact j_zret B K (by decide) (by simp [bI, dg, h3, h9]) rfl d_Tx_isDigit_17
    · -- 9 on
      refine j_iconst (v := 1) B d_Tx_isDigit_12 (by decide) ?_
      refine j_goto B d_Tx_isDigit_13 rfl ?_
      exact j_zret B K (by decide) (by simp [bI, dg, h3, h9]) rfl d_Tx_isDigit_17
set_option maxRecDepth 100000 in
set_option maxHeartbeats 4000000 in
theorem c_Tx_isClosing {l : Launch} {b : Nat} {D : va_G} {ta : Nat → ClassId} {σ : List va_E} (c : Int32) : jC l b D ta False y_Tx_isClosing b_Tx_isClosing 1 (some .boolean) (rL 0) [.int c] (σ) (some (.int (bI (cl c)))) (σ) := by
  refine jC_of (own := "WireField$Text") (by decide +kernel) (Nat.le_of_ble_eq_true rfl) rfl (fun Γ B K => ?_)
  change jW l b D Γ False 0 0 1 (σ) [(0, .int c)] 0 []
  refine j_iload_n B d_Tx_isClosing_0 rfl 0 rfl ?_
  refine j_bipush (v := 41) B d_Tx_isClosing_1 (by decide) ?_
  refine j_icmp_eq B d_Tx_isClosing_3 rfl (fun h3 => ?_) (fun h3 => ?_)
  · -- 3 jump
    refine j_iconst (v := 1) B d_Tx_isClosing_12 (by decide) ?_
    refine j_goto B d_Tx_isClosing_13 rfl ?_
    exact j_zret B K (by decide) (by simp [bI, cl, h3]) rfl d_Tx_isClosing_17
  · -- 3 on
    refine j_iload_n B d_Tx_isClosing_6 rfl 0 rfl ?_
    refine j_bipush (v := 93) B d_Tx_isClosing_7 (by decide) ?_
    refine j_icmp_ne B d_Tx_isClosing_9 rfl (fun h9 => ?_) (fun h9 => ?_)
    · -- 9 jump
      refine j_iconst (v := 0) B d_Tx_isClosing_16 (by decide) ?_
      exact j_zret B K (by decide) (by simp [bI, cl, h3, h9]) rfl d_Tx_isClosing_17
    · -- 9 on
      refine j_iconst (v := 1) B d_Tx_isClosing_12 (by decide) ?_
      refine j_goto B d_Tx_isClosing_13 rfl ?_
      exact j_zret B K (by decide) (by simp [bI, cl, h3, h9]) rfl d_Tx_isClosing_17
set_option maxRecDepth 100000 in
set_option maxHeartbeats 4000000 in
theorem c_Tx_signAt {l : Launch} {b : Nat} {D : va_G} {ta : Nat → ClassId} {σ : List va_E} {x s : Nat} {S : Nat → Int32} {N : Nat} (hx : σ[x]? = some (.inr (5, [.ref (b + s), .int (nI N)]))) (hs : σ[s]? = some (.inl (ta 1, 60, .inl S))) (hS : Fc S) (hN : N ≤ 60) {k : Nat} (hk : k < 2 ^ 31) : jC l b D ta False y_Tx_signAt b_Tx_signAt 2 (some .char) (rL 0) [.ref (b + x), .int (nI k)] (σ) (some (.int (sg S N k))) (σ) := by
  refine jC_of (own := "WireField$Text") (by decide +kernel) (Nat.le_of_ble_eq_true rfl) rfl (fun Γ B K => ?_)
  change jW l b D Γ False 0 0 2 (σ) [(0, .ref (b + x)), (1, .int (nI k))] 0 []
  refine j_iload_n B d_Tx_signAt_0 rfl 1 rfl ?_
  refine j_if_lt B d_Tx_signAt_1 rfl (fun h1 => absurd h1 (nI_pos hk)) (fun h1 => ?_)
  refine j_iload_n B d_Tx_signAt_4 rfl 1 rfl ?_
  refine j_aload_n B d_Tx_signAt_5 rfl 0 rfl ?_
  refine gf_Tx_15 B hx rfl d_Tx_signAt_6 ?_
  refine j_icmp_ge B d_Tx_signAt_9 rfl (fun h9 => ?_) (fun h9 => ?_)
  · -- 9 jump
    have h9 : ¬ k < N := fun q => absurd h9 (nI_ge q (by omega))
    refine j_iconst (v := 0) B d_Tx_signAt_21 (by decide) ?_
    exact j_zret B K (by decide) (by simp only [sg, h9, if_true, if_false]) rfl d_Tx_signAt_22
  · -- 9 on
    have h9 : k < N := (Nat.lt_or_ge k N).elim id (fun q => absurd (nI_le q hk) h9)
    refine j_aload_n B d_Tx_signAt_12 rfl 0 rfl ?_
    refine gf_Tx_9 B hx rfl d_Tx_signAt_13 ?_
    refine j_iload_n B d_Tx_signAt_16 rfl 1 rfl ?_
    refine j_caldN B rfl hs (by omega) d_Tx_signAt_17 ?_
    refine j_goto B d_Tx_signAt_18 rfl ?_
    exact j_zret B K (hS _).1 (by simp only [sg, h9, if_true, if_false]) rfl d_Tx_signAt_22
set_option maxRecDepth 100000 in
set_option maxHeartbeats 4000000 in
theorem c_Tx_digitsAt {l : Launch} {b : Nat} {D : va_G} {ta : Nat → ClassId} {σ : List va_E} {x s : Nat} {S : Nat → Int32} {N : Nat} (hx : σ[x]? = some (.inr (5, [.ref (b + s), .int (nI N)]))) (hs : σ[s]? = some (.inl (ta 1, 60, .inl S))) (hS : Fc S) (hN : N ≤ 60) {k : Nat} (hk : k < 2 ^ 30) : jC l b D ta False y_Tx_digitsAt b_Tx_digitsAt 2 (some .int) (rL 1) [.ref (b + x), .int (nI k)] (σ) (some (.int (nI (dgA S N k)))) (σ) := by
  refine jC_of (own := "WireField$Text") (by decide +kernel) (Nat.le_of_ble_eq_true rfl) rfl (fun Γ B K => ?_)
  change jW l b D Γ False 0 0 2 (σ) [(0, .ref (b + x)), (1, .int (nI k))] 0 []
  refine j_aload_n B d_Tx_digitsAt_0 rfl 0 rfl ?_
  refine j_iload_n B d_Tx_digitsAt_1 rfl 1 rfl ?_
  refine k_callV (as := [.int (nI k)]) (rest := []) (st1 := [.int (sg S N k)]) B (c_Tx_signAt hx hs hS hN (k := k) (by omega)) yf_Tx_signAt w_447 w_448 w_449 rfl hx rfl (by decide) (by decide) rfl rfl (Nat.le_of_ble_eq_true rfl) d_Tx_digitsAt_2 ?_
  refine k_callS (as := [.int (sg S N k)]) (rest := []) (st1 := [.int (bI (dg (sg S N k)))]) B (c_Tx_isDigit (sg S N k)) yf_Tx_isDigit w_458 w_459 rfl (by decide) (by decide) rfl rfl (Nat.le_of_ble_eq_true rfl) d_Tx_digitsAt_5 ?_
  refine j_if_ne B d_Tx_digitsAt_8 rfl (fun h8 => ?_) (fun h8 => ?_)
  · -- 8 jump
    replace h8 := bI_t h8
    refine j_aload_n B d_Tx_digitsAt_13 rfl 0 rfl ?_
    refine j_iload_n B d_Tx_digitsAt_14 rfl 1 rfl ?_
    refine j_iconst (v := 1) B d_Tx_digitsAt_15 (by decide) ?_
    refine j_iaddE (v := nI (k + 1)) B (nI_add k 1) d_Tx_digitsAt_16 ?_
    refine k_callV (as := [.int (nI (k + 1))]) (rest := []) (st1 := [.int (sg S N (k + 1))]) B (c_Tx_signAt hx hs hS hN (k := (k + 1)) (by omega)) yf_Tx_signAt w_447 w_448 w_449 rfl hx rfl (by decide) (by decide) rfl rfl (Nat.le_of_ble_eq_true rfl) d_Tx_digitsAt_17 ?_
    refine k_callS (as := [.int (sg S N (k + 1))]) (rest := []) (st1 := [.int (bI (dg (sg S N (k + 1))))]) B (c_Tx_isDigit (sg S N (k + 1))) yf_Tx_isDigit w_458 w_459 rfl (by decide) (by decide) rfl rfl (Nat.le_of_ble_eq_true rfl) d_Tx_digitsAt_20 ?_
    refine j_if_eq B d_Tx_digitsAt_23 rfl (fun h23 => ?_) (fun h23 => ?_)
    · -- 23 jump
      replace h23 := bI_f h23
      refine j_iconst (v := 1) B d_Tx_digitsAt_30 (by decide) ?_
      exact j_iret B K (by simp [dgA, nI, h8, h23]) rfl d_Tx_digitsAt_31
    · -- 23 on
      replace h23 := bI_t h23
      refine j_iconst (v := 2) B d_Tx_digitsAt_26 (by decide) ?_
      refine j_goto B d_Tx_digitsAt_27 rfl ?_
      exact j_iret B K (by simp [dgA, nI, h8, h23]) rfl d_Tx_digitsAt_31
  · -- 8 on
    replace h8 := bI_f h8
    refine j_iconst (v := 0) B d_Tx_digitsAt_11 (by decide) ?_
    exact j_iret B K (by simp [dgA, nI, h8]) rfl d_Tx_digitsAt_12
set_option maxRecDepth 100000 in
set_option maxHeartbeats 4000000 in
theorem c_Tx_timesAt {l : Launch} {b : Nat} {D : va_G} {ta : Nat → ClassId} {σ : List va_E} {x s : Nat} {S : Nat → Int32} {N : Nat} (hx : σ[x]? = some (.inr (5, [.ref (b + s), .int (nI N)]))) (hs : σ[s]? = some (.inl (ta 1, 60, .inl S))) (hS : Fc S) (hN : N ≤ 60) {k : Nat} (hk : k < 2 ^ 30) : jC l b D ta False y_Tx_timesAt b_Tx_timesAt 2 (some .int) (rL 2) [.ref (b + x), .int (nI k)] (σ) (some (.int (tmA S N k))) (σ) := by
  refine jC_of (own := "WireField$Text") (by decide +kernel) (Nat.le_of_ble_eq_true rfl) rfl (fun Γ B K => ?_)
  change jW l b D Γ False 0 0 2 (σ) [(0, .ref (b + x)), (1, .int (nI k))] 0 []
  refine j_aload_n B d_Tx_timesAt_0 rfl 0 rfl ?_
  refine j_iload_n B d_Tx_timesAt_1 rfl 1 rfl ?_
  refine k_callV (as := [.int (nI k)]) (rest := []) (st1 := [.int (nI (dgA S N k))]) B (c_Tx_digitsAt hx hs hS hN (k := k) (by omega)) yf_Tx_digitsAt w_454 w_455 w_456 rfl hx rfl (by decide) (by decide) rfl rfl (Nat.le_of_ble_eq_true rfl) d_Tx_timesAt_2 ?_
  by_cases s5_1 : nI (dgA S N k) = 1
  · -- 5 case 1
    refine j_lookup B d_Tx_timesAt_5 (by decide) (by rw [s5_1] <;> rfl) rfl ?_
    refine j_aload_n B d_Tx_timesAt_32 rfl 0 rfl ?_
    refine j_iload_n B d_Tx_timesAt_33 rfl 1 rfl ?_
    refine k_callV (as := [.int (nI k)]) (rest := []) (st1 := [.int (sg S N k)]) B (c_Tx_signAt hx hs hS hN (k := k) (by omega)) yf_Tx_signAt w_447 w_448 w_449 rfl hx rfl (by decide) (by decide) rfl rfl (Nat.le_of_ble_eq_true rfl) d_Tx_timesAt_34 ?_
    refine j_bipush (v := 48) B d_Tx_timesAt_37 (by decide) ?_
    refine j_isub B d_Tx_timesAt_39 ?_
    exact j_iret B K (by rw [tmA, if_pos s5_1]) rfl d_Tx_timesAt_40
  by_cases s5_2 : nI (dgA S N k) = 2
  · -- 5 case 2
    refine j_lookup B d_Tx_timesAt_5 (by decide) (by rw [s5_2] <;> rfl) rfl ?_
    refine j_aload_n B d_Tx_timesAt_41 rfl 0 rfl ?_
    refine j_iload_n B d_Tx_timesAt_42 rfl 1 rfl ?_
    refine k_callV (as := [.int (nI k)]) (rest := []) (st1 := [.int (sg S N k)]) B (c_Tx_signAt hx hs hS hN (k := k) (by omega)) yf_Tx_signAt w_447 w_448 w_449 rfl hx rfl (by decide) (by decide) rfl rfl (Nat.le_of_ble_eq_true rfl) d_Tx_timesAt_43 ?_
    refine j_bipush (v := 48) B d_Tx_timesAt_46 (by decide) ?_
    refine j_isub B d_Tx_timesAt_48 ?_
    refine j_bipush (v := 10) B d_Tx_timesAt_49 (by decide) ?_
    refine j_imul B d_Tx_timesAt_51 ?_
    refine j_aload_n B d_Tx_timesAt_52 rfl 0 rfl ?_
    refine j_iload_n B d_Tx_timesAt_53 rfl 1 rfl ?_
    refine j_iconst (v := 1) B d_Tx_timesAt_54 (by decide) ?_
    refine j_iaddE (v := nI (k + 1)) B (nI_add k 1) d_Tx_timesAt_55 ?_
    refine k_callV (as := [.int (nI (k + 1))]) (rest := [.int (((sg S N k) - 48) * 10)]) (st1 := [.int (sg S N (k + 1)), .int (((sg S N k) - 48) * 10)]) B (c_Tx_signAt hx hs hS hN (k := (k + 1)) (by omega)) yf_Tx_signAt w_447 w_448 w_449 rfl hx rfl (by decide) (by decide) rfl rfl (Nat.le_of_ble_eq_true rfl) d_Tx_timesAt_56 ?_
    refine j_iadd B d_Tx_timesAt_59 ?_
    refine j_bipush (v := 48) B d_Tx_timesAt_60 (by decide) ?_
    refine j_isub B d_Tx_timesAt_62 ?_
    exact j_iret B K (by rw [tmA, if_neg s5_1, if_pos s5_2]) rfl d_Tx_timesAt_63
  · -- 5 default
    refine j_lookup B d_Tx_timesAt_5 (by decide) (by rw [lv_osw (k := 1) s5_1 (by decide), lv_osw (k := 2) s5_2 (by decide)] <;> rfl) rfl ?_
    refine j_iconst (v := 1) B d_Tx_timesAt_64 (by decide) ?_
    exact j_iret B K (by rw [tmA, if_neg s5_1, if_neg s5_2]) rfl d_Tx_timesAt_65
set_option maxRecDepth 100000 in
set_option maxHeartbeats 4000000 in
theorem c_Tx_clear {l : Launch} {b : Nat} {D : va_G} {ta : Nat → ClassId} {σ : List va_E} {x s : Nat} {n : Int32} (hx : σ[x]? = some (.inr (5, [.ref (b + s), .int n]))) : jC l b D ta False y_Tx_clear b_Tx_clear 1 none (rL 0) [.ref (b + x)] (σ) none (σ.set x (.inr (5, [.ref (b + s), .int 0]))) := by
  refine jC_of (own := "WireField$Text") (by decide +kernel) (Nat.le_of_ble_eq_true rfl) rfl (fun Γ B K => ?_)
  change jW l b D Γ False 0 0 1 (σ) [(0, .ref (b + x))] 0 []
  refine j_aload_n B d_Tx_clear_0 rfl 0 rfl ?_
  refine j_iconst (v := 0) B d_Tx_clear_1 (by decide) ?_
  refine pf_Tx_15 B not_false hx rfl rfl (Nat.le_of_ble_eq_true rfl) d_Tx_clear_2 ?_
  exact j_vret B K rfl d_Tx_clear_5
set_option maxRecDepth 100000 in
set_option maxHeartbeats 4000000 in
theorem c_Tx_takeFrom {l : Launch} {b : Nat} {D : va_G} {ta : Nat → ClassId} {σ : List va_E} {x s : Nat} {S : Nat → Int32} {N : Nat} (hx : σ[x]? = some (.inr (5, [.ref (b + s), .int (nI N)]))) (hs : σ[s]? = some (.inl (ta 1, 60, .inl S))) {x2 s2 : Nat} {S2 : Nat → Int32} {N2 : Nat} (hx2 : σ[x2]? = some (.inr (5, [.ref (b + s2), .int (nI N2)]))) (hs2 : σ[s2]? = some (.inl (ta 1, 60, .inl S2))) (n1 : s ≠ x) (n2 : s ≠ x2) (n3 : s ≠ s2) (n4 : x ≠ x2) (n5 : x ≠ s2) (hS2 : Fc S2) (z2 : Z60 S2) (z1 : Z60 S) : jC l b D ta False y_Tx_takeFrom b_Tx_takeFrom 2 none (rL 1) [.ref (b + x), .ref (b + x2)] (σ) none ((σ.set s (.inl (ta 1, 60, .inl S2))).set x (.inr (5, [.ref (b + s), .int (nI N2)]))) := by
  refine jC_of (own := "WireField$Text") (by decide +kernel) (Nat.le_of_ble_eq_true rfl) rfl (fun Γ B K => ?_)
  change jW l b D Γ False 0 0 2 (σ) [(0, .ref (b + x)), (1, .ref (b + x2))] 0 []
  refine j_aload_n B d_Tx_takeFrom_0 rfl 1 rfl ?_
  refine gf_Tx_9 B hx2 rfl d_Tx_takeFrom_1 ?_
  refine j_iconst (v := 0) B d_Tx_takeFrom_4 (by decide) ?_
  refine j_aload_n B d_Tx_takeFrom_5 rfl 0 rfl ?_
  refine gf_Tx_9 B hx rfl d_Tx_takeFrom_6 ?_
  refine j_iconst (v := 0) B d_Tx_takeFrom_9 (by decide) ?_
  refine j_bipush (v := 60) B d_Tx_takeFrom_10 (by decide) ?_
  refine k_copy B w_683 w_259 w_258 w_20 rfl rfl hs2 hs ⟨by decide, by decide⟩ (fun i _ => (hS2 i).2) (by decide) (Nat.le_of_ble_eq_true rfl) (z60 z2 z1) d_Tx_takeFrom_12 ?_
  refine j_aload_n B d_Tx_takeFrom_15 rfl 0 rfl ?_
  refine j_aload_n B d_Tx_takeFrom_16 rfl 1 rfl ?_
  refine gf_Tx_15 B (jn n2 hx2) rfl d_Tx_takeFrom_17 ?_
  refine pf_Tx_15 B not_false (jn n1 hx) rfl rfl (Nat.le_of_ble_eq_true rfl) d_Tx_takeFrom_20 ?_
  exact j_vret B K rfl d_Tx_takeFrom_23
set_option maxRecDepth 100000 in
set_option maxHeartbeats 4000000 in
theorem c_Tx_add_f {l : Launch} {b : Nat} {D : va_G} {ta : Nat → ClassId} {σ : List va_E} {x s : Nat} {S : Nat → Int32} {N : Nat} (hx : σ[x]? = some (.inr (5, [.ref (b + s), .int (nI N)]))) (hs : σ[s]? = some (.inl (ta 1, 60, .inl S))) {c : Int32} (hc : c < 33 ∨ 126 < c ∨ N = 60) : jC l b D ta False y_Tx_add b_Tx_add 2 (some .boolean) (rL 0) [.ref (b + x), .int c] (σ) (some (.int 0)) (σ) := by
  refine jC_of (own := "WireField$Text") (by decide +kernel) (Nat.le_of_ble_eq_true rfl) rfl (fun Γ B K => ?_)
  change jW l b D Γ False 0 0 2 (σ) [(0, .ref (b + x)), (1, .int c)] 0 []
  refine j_iload_n B d_Tx_add_0 rfl 1 rfl ?_
  refine j_bipush (v := 33) B d_Tx_add_1 (by decide) ?_
  refine j_icmp_lt B d_Tx_add_3 rfl (fun h3 => ?_) (fun h3 => ?_)
  · -- 3 jump
    refine j_iconst (v := 0) B d_Tx_add_21 (by decide) ?_
    exact j_zret B K (by decide) rfl rfl d_Tx_add_22
  · -- 3 on
    refine j_iload_n B d_Tx_add_6 rfl 1 rfl ?_
    refine j_bipush (v := 126) B d_Tx_add_7 (by decide) ?_
    refine j_icmp_gt B d_Tx_add_9 rfl (fun h9 => ?_) (fun h9 => ?_)
    · -- 9 jump
      refine j_iconst (v := 0) B d_Tx_add_21 (by decide) ?_
      exact j_zret B K (by decide) rfl rfl d_Tx_add_22
    · -- 9 on
      refine j_aload_n B d_Tx_add_12 rfl 0 rfl ?_
      refine gf_Tx_15 B hx rfl d_Tx_add_13 ?_
      refine j_bipush (v := 60) B d_Tx_add_16 (by decide) ?_
      refine j_icmp_lt B d_Tx_add_18 rfl (fun h18 => ?_) (fun h18 => ?_)
      · -- 18 jump
        exact absurd hc (fun q => q.elim h3 (fun q => q.elim h9 (fun q => by rw [q] at h18; exact absurd h18 (by decide))))
      · -- 18 on
        refine j_iconst (v := 0) B d_Tx_add_21 (by decide) ?_
        exact j_zret B K (by decide) rfl rfl d_Tx_add_22
set_option maxRecDepth 100000 in
set_option maxHeartbeats 4000000 in
theorem c_Tx_add_t {l : Launch} {b : Nat} {D : va_G} {ta : Nat → ClassId} {σ : List va_E} {x s : Nat} {S : Nat → Int32} {N : Nat} (hx : σ[x]? = some (.inr (5, [.ref (b + s), .int (nI N)]))) (hs : σ[s]? = some (.inl (ta 1, 60, .inl S))) (nxs : s ≠ x) {C : Nat} (h33 : 33 ≤ C) (h126 : C ≤ 126) (hN : N < 60) : jC l b D ta False y_Tx_add b_Tx_add 2 (some .boolean) (rL 0) [.ref (b + x), .int (nI C)] (σ) (some (.int 1)) ((σ.set s (.inl (ta 1, 60, .inl (upd S N (nI C))))).set x (.inr (5, [.ref (b + s), .int (nI (N + 1))]))) := by
  refine jC_of (own := "WireField$Text") (by decide +kernel) (Nat.le_of_ble_eq_true rfl) rfl (fun Γ B K => ?_)
  change jW l b D Γ False 0 0 2 (σ) [(0, .ref (b + x)), (1, .int (nI C))] 0 []
  refine j_iload_n B d_Tx_add_0 rfl 1 rfl ?_
  refine j_bipush (v := 33) B d_Tx_add_1 (by decide) ?_
  refine j_icmp_lt B d_Tx_add_3 rfl (fun h3 => absurd h3 (nI_nlt (a := C) (b := 33) (by omega) (by omega))) (fun h3 => ?_)
  refine j_iload_n B d_Tx_add_6 rfl 1 rfl ?_
  refine j_bipush (v := 126) B d_Tx_add_7 (by decide) ?_
  refine j_icmp_gt B d_Tx_add_9 rfl (fun h9 => absurd h9 (nI_nlt (a := 126) (b := C) (by omega) (by omega))) (fun h9 => ?_)
  refine j_aload_n B d_Tx_add_12 rfl 0 rfl ?_
  refine gf_Tx_15 B hx rfl d_Tx_add_13 ?_
  refine j_bipush (v := 60) B d_Tx_add_16 (by decide) ?_
  refine j_icmp_lt B d_Tx_add_18 rfl (fun h18 => ?_) (fun h18 => absurd (nI_lt (a := N) (b := 60) (by omega) (by omega)) h18)
  refine j_aload_n B d_Tx_add_23 rfl 0 rfl ?_
  refine gf_Tx_9 B hx rfl d_Tx_add_24 ?_
  refine j_aload_n B d_Tx_add_27 rfl 0 rfl ?_
  refine gf_Tx_15 B hx rfl d_Tx_add_28 ?_
  refine j_iload_n B d_Tx_add_31 rfl 1 rfl ?_
  refine j_castN B not_false rfl hs (by omega) d_Tx_add_32 ?_
  refine j_aload_n B d_Tx_add_33 rfl 0 rfl ?_
  refine j_dup B d_Tx_add_34 rfl ?_
  refine gf_Tx_15 B (jn nxs hx) rfl d_Tx_add_35 ?_
  refine j_iconst (v := 1) B d_Tx_add_38 (by decide) ?_
  refine j_iaddE (v := nI (N + 1)) B (nI_add N 1) d_Tx_add_39 ?_
  refine pf_Tx_15 B not_false (jn nxs hx) rfl rfl (Nat.le_of_ble_eq_true rfl) d_Tx_add_40 ?_
  refine j_iconst (v := 1) B d_Tx_add_43 (by decide) ?_
  exact j_zret B K (by decide) rfl (by rw [show vp_nar .char (nI C) = nI C from by rw [vp_nar, (pk_charN (q := C) (by omega)).1]]; rfl) d_Tx_add_44
set_option maxRecDepth 100000 in
set_option maxHeartbeats 4000000 in
theorem c_Tx_heldMacros {l : Launch} {b : Nat} {D : va_G} {ta : Nat → ClassId} {σ : List va_E} {x s : Nat} {S : Nat → Int32} {N : Nat} (hx : σ[x]? = some (.inr (5, [.ref (b + s), .int (nI N)]))) (hs : σ[s]? = some (.inl (ta 1, 60, .inl S))) (hS : Fc S) (hN : N ≤ 60) : jC l b D ta False y_Tx_heldMacros b_Tx_heldMacros 4 (some .int) (rL 1) [.ref (b + x)] (σ) (some (.int (hmF S N N))) (σ) := by
  refine jC_of (own := "WireField$Text") (by decide +kernel) (Nat.le_of_ble_eq_true rfl) rfl (fun Γ B K => ?_)
  change jW l b D Γ False 0 0 4 (σ) [(0, .ref (b + x))] 0 []
  refine j_iconst (v := 0) B d_Tx_heldMacros_0 (by decide) ?_
  refine j_istore_n (L' := [(0, .ref (b + x)), (1, .int 0)]) B d_Tx_heldMacros_1 rfl (by decide) [1, 0] rfl ?_
  refine j_iconst (v := 0) B d_Tx_heldMacros_2 (by decide) ?_
  refine j_istore_n (L' := [(0, .ref (b + x)), (1, .int 0), (2, .int 0)]) B d_Tx_heldMacros_3 rfl (by decide) [1, 2, 0] rfl ?_
  have lp4 : ∀ (n : Nat) (k : Nat) (acc : Int32), N - k = n → (k ≤ N) → (acc = hmF S N k) → jW l b D Γ False 0 0 4 (σ) [(0, .ref (b + x)), (1, .int acc), (2, .int (nI k))] 4 [] := by
    refine jloop (fun n ih => ?_)
    intro k acc hn hk ha
    refine j_iload_n B d_Tx_heldMacros_4 rfl 2 rfl ?_
    refine j_aload_n B d_Tx_heldMacros_5 rfl 0 rfl ?_
    refine gf_Tx_15 B hx rfl d_Tx_heldMacros_6 ?_
    refine j_icmp_ge B d_Tx_heldMacros_9 rfl (fun h9 => ?_) (fun h9 => ?_)
    · -- 9 jump
      have hkN : k = N := lp_ge (by omega) hk h9
      subst hkN
      refine j_iload_n B d_Tx_heldMacros_54 rfl 1 rfl ?_
      exact j_iret B K ha rfl d_Tx_heldMacros_55
    · -- 9 on
      have hkN : k < N := lp_lt (by omega) hk h9
      refine j_aload_n B d_Tx_heldMacros_12 rfl 0 rfl ?_
      refine j_iload_n B d_Tx_heldMacros_13 rfl 2 rfl ?_
      refine j_iconst (v := 1) B d_Tx_heldMacros_14 (by decide) ?_
      refine j_iaddE (v := nI (k + 1)) B (nI_add k 1) d_Tx_heldMacros_15 ?_
      refine k_callV (as := [.int (nI (k + 1))]) (rest := []) (st1 := [.int (sg S N (k + 1))]) B (c_Tx_signAt hx hs hS hN (k := (k + 1)) (by omega)) yf_Tx_signAt w_447 w_448 w_449 rfl hx rfl (by decide) (by decide) rfl rfl (Nat.le_of_ble_eq_true rfl) d_Tx_heldMacros_16 ?_
      refine j_bipush (v := 97) B d_Tx_heldMacros_19 (by decide) ?_
      refine j_isub B d_Tx_heldMacros_21 ?_
      refine j_istore_n (L' := [(0, .ref (b + x)), (1, .int acc), (2, .int (nI k)), (3, .int ((sg S N (k + 1)) - 97))]) B d_Tx_heldMacros_22 rfl (by decide) [1, 2, 3, 0] rfl ?_
      refine j_aload_n B d_Tx_heldMacros_23 rfl 0 rfl ?_
      refine j_iload_n B d_Tx_heldMacros_24 rfl 2 rfl ?_
      refine k_callV (as := [.int (nI k)]) (rest := []) (st1 := [.int (sg S N k)]) B (c_Tx_signAt hx hs hS hN (k := k) (by omega)) yf_Tx_signAt w_447 w_448 w_449 rfl hx rfl (by decide) (by decide) rfl rfl (Nat.le_of_ble_eq_true rfl) d_Tx_heldMacros_25 ?_
      refine j_bipush (v := 64) B d_Tx_heldMacros_28 (by decide) ?_
      refine j_icmp_ne B d_Tx_heldMacros_30 rfl (fun h30 => ?_) (fun h30 => ?_)
      · -- 30 jump
        refine j_iinc (L' := [(0, .ref (b + x)), (1, .int acc), (2, .int (nI (k + 1))), (3, .int ((sg S N (k + 1)) - 97))]) (v := nI (k + 1)) B d_Tx_heldMacros_48 (k := 2) rfl (nI_succ k).symm (by decide) [1, 2, 0, 3] rfl ?_
        refine j_goto B d_Tx_heldMacros_51 rfl ?_
        refine jW.sub (L' := [(0, .ref (b + x)), (1, .int acc), (2, .int (nI (k + 1)))]) [0, 1, 2] rfl ?_; exact ih _ (by omega) (k + 1) acc rfl (by omega) (by rw [ha]; simp [hmF, h30])
      · -- 30 on
        refine j_iload_n B d_Tx_heldMacros_33 rfl 3 rfl ?_
        refine j_if_lt B d_Tx_heldMacros_34 rfl (fun h34 => ?_) (fun h34 => ?_)
        · -- 34 jump
          refine j_iinc (L' := [(0, .ref (b + x)), (1, .int acc), (2, .int (nI (k + 1))), (3, .int ((sg S N (k + 1)) - 97))]) (v := nI (k + 1)) B d_Tx_heldMacros_48 (k := 2) rfl (nI_succ k).symm (by decide) [1, 2, 0, 3] rfl ?_
          refine j_goto B d_Tx_heldMacros_51 rfl ?_
          refine jW.sub (L' := [(0, .ref (b + x)), (1, .int acc), (2, .int (nI (k + 1)))]) [0, 1, 2] rfl ?_; exact ih _ (by omega) (k + 1) acc rfl (by omega) (by rw [ha]; simp [hmF, h30, h34])
        · -- 34 on
          refine j_iload_n B d_Tx_heldMacros_37 rfl 3 rfl ?_
          refine j_iconst (v := 4) B d_Tx_heldMacros_38 (by decide) ?_
          refine j_icmp_ge B d_Tx_heldMacros_39 rfl (fun h39 => ?_) (fun h39 => ?_)
          · -- 39 jump
            refine j_iinc (L' := [(0, .ref (b + x)), (1, .int acc), (2, .int (nI (k + 1))), (3, .int ((sg S N (k + 1)) - 97))]) (v := nI (k + 1)) B d_Tx_heldMacros_48 (k := 2) rfl (nI_succ k).symm (by decide) [1, 2, 0, 3] rfl ?_
            refine j_goto B d_Tx_heldMacros_51 rfl ?_
            refine jW.sub (L' := [(0, .ref (b + x)), (1, .int acc), (2, .int (nI (k + 1)))]) [0, 1, 2] rfl ?_; exact ih _ (by omega) (k + 1) acc rfl (by omega) (by rw [ha]; simp [hmF, h30, h34, h39])
          · -- 39 on
            refine j_iload_n B d_Tx_heldMacros_42 rfl 1 rfl ?_
            refine j_iconst (v := 1) B d_Tx_heldMacros_43 (by decide) ?_
            refine j_iload_n B d_Tx_heldMacros_44 rfl 3 rfl ?_
            refine j_ishl B d_Tx_heldMacros_45 ?_
            refine j_ior B d_Tx_heldMacros_46 ?_
            refine j_istore_n (L' := [(0, .ref (b + x)), (1, .int (acc ||| (1 <<< (((sg S N (k + 1)) - 97) &&& 31)))), (2, .int (nI k)), (3, .int ((sg S N (k + 1)) - 97))]) B d_Tx_heldMacros_47 rfl (by decide) [1, 0, 2, 3] rfl ?_
            refine j_iinc (L' := [(0, .ref (b + x)), (1, .int (acc ||| (1 <<< (((sg S N (k + 1)) - 97) &&& 31)))), (2, .int (nI (k + 1))), (3, .int ((sg S N (k + 1)) - 97))]) (v := nI (k + 1)) B d_Tx_heldMacros_48 (k := 2) rfl (nI_succ k).symm (by decide) [1, 2, 0, 3] rfl ?_
            refine j_goto B d_Tx_heldMacros_51 rfl ?_
            refine jW.sub (L' := [(0, .ref (b + x)), (1, .int (acc ||| (1 <<< (((sg S N (k + 1)) - 97) &&& 31)))), (2, .int (nI (k + 1)))]) [0, 1, 2] rfl ?_; exact ih _ (by omega) (k + 1) (acc ||| (1 <<< (((sg S N (k + 1)) - 97) &&& 31))) rfl (by omega) (by rw [ha]; simp [hmF, h30, h34, h39])
  exact lp4 _ 0 0 rfl (by omega) rfl
set_option maxRecDepth 100000 in
set_option maxHeartbeats 4000000 in
theorem k_Tx_endOfOrders {l : Launch} {b : Nat} {D : va_G} {ta : Nat → ClassId} {σ : List va_E} {x s : Nat} {S : Nat → Int32} {N : Nat} (hx : σ[x]? = some (.inr (5, [.ref (b + s), .int (nI N)]))) (hs : σ[s]? = some (.inl (ta 1, 60, .inl S))) (hS : Fc S) (hN : N ≤ 60) {rec : Nat → Option Nat} {Lt d lv : Nat} (hO : ∀ k, k ≤ 62 → jC l b D ta False y_Tx_endOfOrder b_Tx_endOfOrder 6 (some .int) (rL lv) [.ref (b + x), .int (nI k), .int (nI d), .int (nI Lt)] σ (some (.int (rI (eoO rec S N Lt k)))) σ) {k0 : Nat} (hk0 : k0 ≤ N) : jC l b D ta False y_Tx_endOfOrders b_Tx_endOfOrders 6 (some .int) (rL (lv + 2)) [.ref (b + x), .int (nI k0), .int (nI d), .int (nI Lt)] (σ) (some (.int (rI (eoS rec S N Lt 60 k0)))) (σ) := by
  refine jC_of (own := "WireField$Text") (by decide +kernel) (Nat.le_of_ble_eq_true rfl) rfl (fun Γ B K => ?_)
  change jW l b D Γ False 0 0 6 (σ) [(0, .ref (b + x)), (1, .int (nI k0)), (2, .int (nI d)), (3, .int (nI Lt))] 0 []
  refine j_iload_n B d_Tx_endOfOrders_0 rfl 1 rfl ?_
  refine j_istore (L' := [(0, .ref (b + x)), (1, .int (nI k0)), (2, .int (nI d)), (3, .int (nI Lt)), (4, .int (nI k0))]) B d_Tx_endOfOrders_1 (by decide) [1, 2, 3, 4, 0] rfl ?_
  refine j_iconst (v := 0) B d_Tx_endOfOrders_3 (by decide) ?_
  refine j_istore (L' := [(0, .ref (b + x)), (1, .int (nI k0)), (2, .int (nI d)), (3, .int (nI Lt)), (4, .int (nI k0)), (5, .int 0)]) B d_Tx_endOfOrders_4 (by decide) [1, 2, 3, 4, 5, 0] rfl ?_
  have lp6 : ∀ (n : Nat) (rd : Nat) (a : Option Nat), 60 - rd = n → (rd ≤ 60) → (∀ k, a = some k → k ≤ N) → (eoW rec S N Lt (60 - rd) a = eoS rec S N Lt 60 k0) → jW l b D Γ False 0 0 6 (σ) [(0, .ref (b + x)), (2, .int (nI d)), (3, .int (nI Lt)), (4, .int (rI a)), (5, .int (nI rd))] 6 [] := by
    refine jloop (fun n ih => ?_)
    intro rd a hn hrd ha hI
    refine j_iload B d_Tx_endOfOrders_6 4 rfl ?_
    refine j_bipush (v := 60) B d_Tx_endOfOrders_8 (by decide) ?_
    refine j_icmp_ge B d_Tx_endOfOrders_10 rfl (fun h10 => ?_) (fun h10 => ?_)
    · -- 10 jump
      have h60 : rd = 60 := lp_ge (n := 60) (by decide) hrd h10
      subst h60
      have hE : a = eoS rec S N Lt 60 k0 := by rw [← hI]; cases a <;> rfl
      refine j_iload B d_Tx_endOfOrders_62 3 rfl ?_
      exact j_iret B K (by rw [← hE] <;> rfl) rfl d_Tx_endOfOrders_64
    · -- 10 on
      have h60 : rd < 60 := lp_lt (n := 60) (by decide) hrd h10
      refine j_iload B d_Tx_endOfOrders_13 3 rfl ?_
      refine j_if_lt B d_Tx_endOfOrders_15 rfl (fun h15 => ?_) (fun h15 => ?_)
      · -- 15 jump
        have hn0 := rI_neg (fun k h => Nat.le_trans (ha k h) hN) h15
        subst hn0
        have hE : none = eoS rec S N Lt 60 k0 := hI
        refine j_iload B d_Tx_endOfOrders_62 3 rfl ?_
        exact j_iret B K (by rw [← hE] <;> rfl) rfl d_Tx_endOfOrders_64
      · -- 15 on
        obtain ⟨k, hak⟩ := rI_pos h15
        subst hak
        have hk := ha k rfl
        change jW l b D Γ False 0 0 6 (σ) [(0, .ref (b + x)), (2, .int (nI d)), (3, .int (nI Lt)), (4, .int (nI k)), (5, .int (nI rd))] 18 []
        have hf : 60 - rd = (60 - (rd + 1)) + 1 := by omega
        have hI2 : eoS rec S N Lt (60 - rd) k = eoS rec S N Lt 60 k0 := hI
        rw [hf, eoS_s (f := 60 - (rd + 1)) (k := k)] at hI2
        refine j_iload B d_Tx_endOfOrders_18 3 rfl ?_
        refine j_aload_n B d_Tx_endOfOrders_20 rfl 0 rfl ?_
        refine gf_Tx_15 B hx rfl d_Tx_endOfOrders_21 ?_
        refine j_icmp_ge B d_Tx_endOfOrders_24 rfl (fun h24 => ?_) (fun h24 => ?_)
        · -- 24 jump
          have hkN : ¬ k < N := fun q => absurd h24 (nI_ge q (by omega))
          rw [if_neg (fun q => hkN q.1)] at hI2
          have hE : some k = eoS rec S N Lt 60 k0 := hI2
          refine j_iload B d_Tx_endOfOrders_62 3 rfl ?_
          exact j_iret B K (by rw [← hE] <;> rfl) rfl d_Tx_endOfOrders_64
        · -- 24 on
          have hkN : k < N := (Nat.lt_or_ge k N).elim id (fun q => absurd (nI_le q (by omega)) h24)
          refine j_aload_n B d_Tx_endOfOrders_27 rfl 0 rfl ?_
          refine j_iload B d_Tx_endOfOrders_28 3 rfl ?_
          refine k_callV (as := [.int (nI k)]) (rest := []) (st1 := [.int (sg S N k)]) B (c_Tx_signAt hx hs hS hN (k := k) (by omega)) yf_Tx_signAt w_447 w_448 w_449 rfl hx rfl (by omega) (by decide) rfl rfl (Nat.le_of_ble_eq_true rfl) d_Tx_endOfOrders_30 ?_
          refine k_callS (as := [.int (sg S N k)]) (rest := []) (st1 := [.int (bI (cl (sg S N k)))]) B (c_Tx_isClosing (sg S N k)) yf_Tx_isClosing w_451 w_452 rfl (by omega) (by decide) rfl rfl (Nat.le_of_ble_eq_true rfl) d_Tx_endOfOrders_33 ?_
          refine j_if_ne B d_Tx_endOfOrders_36 rfl (fun h36 => ?_) (fun h36 => ?_)
          · -- 36 jump
            replace h36 := bI_t h36
            rw [if_neg (fun q => by rw [h36] at q; exact absurd q.2 (by decide))] at hI2
            have hE : some k = eoS rec S N Lt 60 k0 := hI2
            refine j_iload B d_Tx_endOfOrders_62 3 rfl ?_
            exact j_iret B K (by rw [← hE] <;> rfl) rfl d_Tx_endOfOrders_64
          · -- 36 on
            replace h36 := bI_f h36
            rw [if_pos ⟨hkN, h36⟩] at hI2
            refine j_aload_n B d_Tx_endOfOrders_39 rfl 0 rfl ?_
            refine j_iload B d_Tx_endOfOrders_40 3 rfl ?_
            refine j_aload_n B d_Tx_endOfOrders_42 rfl 0 rfl ?_
            refine j_iload B d_Tx_endOfOrders_43 3 rfl ?_
            refine k_callV (as := [.int (nI k)]) (rest := [.int (nI k), .ref (b + x)]) (st1 := [.int (nI (dgA S N k)), .int (nI k), .ref (b + x)]) B (c_Tx_digitsAt hx hs hS hN (k := k) (by omega)) yf_Tx_digitsAt w_454 w_455 w_456 rfl hx rfl (by omega) (by decide) rfl rfl (Nat.le_of_ble_eq_true rfl) d_Tx_endOfOrders_45 ?_
            refine j_iaddE (v := nI (k + (dgA S N k))) B (nI_add k (dgA S N k)) d_Tx_endOfOrders_48 ?_
            refine j_iload_n B d_Tx_endOfOrders_49 rfl 1 rfl ?_
            refine j_iload_n B d_Tx_endOfOrders_50 rfl 2 rfl ?_
            refine k_callV (as := [.int (nI (k + (dgA S N k))), .int (nI d), .int (nI Lt)]) (rest := []) (st1 := [.int (rI (eoO rec S N Lt (k + (dgA S N k))))]) B (hO _ (by have := dgA_le S N k; omega)) yf_Tx_endOfOrder w_461 w_463 w_s8 rfl hx rfl (by omega) (by decide) rfl rfl (Nat.le_of_ble_eq_true rfl) d_Tx_endOfOrders_51 ?_
            refine j_istore (L' := [(0, .ref (b + x)), (2, .int (nI d)), (3, .int (nI Lt)), (4, .int (rI (eoO rec S N Lt (k + (dgA S N k))))), (5, .int (nI rd))]) B d_Tx_endOfOrders_54 (by decide) [1, 2, 3, 0, 4] rfl ?_
            refine j_iinc (L' := [(0, .ref (b + x)), (2, .int (nI d)), (3, .int (nI Lt)), (4, .int (rI (eoO rec S N Lt (k + (dgA S N k))))), (5, .int (nI (rd + 1)))]) (v := nI (rd + 1)) B d_Tx_endOfOrders_56 (k := 4) rfl (nI_succ rd).symm (by decide) [1, 2, 3, 4, 0] rfl ?_
            refine j_goto B d_Tx_endOfOrders_59 rfl ?_
            exact ih _ (by omega) (rd + 1) (eoO rec S N Lt (k + dgA S N k)) rfl (by omega) (fun z h => eoO_le h) (by rw [← hI2]; cases eoO rec S N Lt (k + dgA S N k) <;> rfl)
  refine jW.sub (L' := [(0, .ref (b + x)), (2, .int (nI d)), (3, .int (nI Lt)), (4, .int (nI k0)), (5, .int 0)]) [0, 2, 3, 4, 5] rfl ?_; exact lp6 _ 0 (some k0) rfl (by omega) (fun k h => by cases h; exact hk0) rfl
set_option maxRecDepth 100000 in
set_option maxHeartbeats 4000000 in
theorem k_Tx_endOfBracket_4 {l : Launch} {b : Nat} {D : va_G} {ta : Nat → ClassId} {σ : List va_E} {x s : Nat} {S : Nat → Int32} {N : Nat} (hx : σ[x]? = some (.inr (5, [.ref (b + s), .int (nI N)]))) (hs : σ[s]? = some (.inl (ta 1, 60, .inl S))) (hS : Fc S) (hN : N ≤ 60) {Lt lv : Nat} {k : Nat} {c : Int32} : jC l b D ta False y_Tx_endOfBracket b_Tx_endOfBracket 6 (some .int) (rL lv) [.ref (b + x), .int (nI k), .int c, .int (nI 4), .int (nI Lt)] (σ) (some (.int (rI (eoB (fun _ => none) S N k c)))) (σ) := by
  refine jC_of (own := "WireField$Text") (by decide +kernel) (Nat.le_of_ble_eq_true rfl) rfl (fun Γ B K => ?_)
  change jW l b D Γ False 0 0 6 (σ) [(0, .ref (b + x)), (1, .int (nI k)), (2, .int c), (3, .int (nI 4)), (4, .int (nI Lt))] 0 []
  refine j_iload_n B d_Tx_endOfBracket_0 rfl 3 rfl ?_
  refine j_iconst (v := 3) B d_Tx_endOfBracket_1 (by decide) ?_
  refine j_icmp_le B d_Tx_endOfBracket_2 rfl (fun h2 => absurd h2 (by decide)) (fun h2 => ?_)
  refine j_iconst (v := (-1)) B d_Tx_endOfBracket_5 (by decide) ?_
  exact j_iret B K rfl rfl d_Tx_endOfBracket_6
set_option maxRecDepth 100000 in
set_option maxHeartbeats 4000000 in
theorem k_Tx_endOfBracket {l : Launch} {b : Nat} {D : va_G} {ta : Nat → ClassId} {σ : List va_E} {x s : Nat} {S : Nat → Int32} {N : Nat} (hx : σ[x]? = some (.inr (5, [.ref (b + s), .int (nI N)]))) (hs : σ[s]? = some (.inl (ta 1, 60, .inl S))) (hS : Fc S) (hN : N ≤ 60) {rec : Nat → Option Nat} {Lt d lv : Nat} (hd : d ≤ 3) (hP : ∀ k, k ≤ N → jC l b D ta False y_Tx_endOfOrders b_Tx_endOfOrders 6 (some .int) (rL lv) [.ref (b + x), .int (nI k), .int (nI d), .int (nI Lt)] σ (some (.int (rI (rec k)))) σ) (hr : ∀ k e, k ≤ N → rec k = some e → e ≤ N) {k : Nat} (hk : k ≤ N) {c : Int32} : jC l b D ta False y_Tx_endOfBracket b_Tx_endOfBracket 6 (some .int) (rL (lv + 1)) [.ref (b + x), .int (nI k), .int c, .int (nI d), .int (nI Lt)] (σ) (some (.int (rI (eoB rec S N k c)))) (σ) := by
  refine jC_of (own := "WireField$Text") (by decide +kernel) (Nat.le_of_ble_eq_true rfl) rfl (fun Γ B K => ?_)
  change jW l b D Γ False 0 0 6 (σ) [(0, .ref (b + x)), (1, .int (nI k)), (2, .int c), (3, .int (nI d)), (4, .int (nI Lt))] 0 []
  refine j_iload_n B d_Tx_endOfBracket_0 rfl 3 rfl ?_
  refine j_iconst (v := 3) B d_Tx_endOfBracket_1 (by decide) ?_
  refine j_icmp_le B d_Tx_endOfBracket_2 rfl (fun h2 => ?_) (fun h2 => absurd (nI_le (a := d) (b := 3) hd (by decide)) h2)
  refine j_aload_n B d_Tx_endOfBracket_7 rfl 0 rfl ?_
  refine j_iload_n B d_Tx_endOfBracket_8 rfl 1 rfl ?_
  refine j_iload_n B d_Tx_endOfBracket_9 rfl 3 rfl ?_
  refine j_iload B d_Tx_endOfBracket_10 4 rfl ?_
  refine k_callV (as := [.int (nI k), .int (nI d), .int (nI Lt)]) (rest := []) (st1 := [.int (rI (rec k))]) B (hP _ hk) yf_Tx_endOfOrders w_443 w_445 w_s7 rfl hx rfl (by omega) (by decide) rfl rfl (Nat.le_of_ble_eq_true rfl) d_Tx_endOfBracket_12 ?_
  refine j_istore (L' := [(0, .ref (b + x)), (1, .int (nI k)), (2, .int c), (3, .int (nI d)), (4, .int (nI Lt)), (5, .int (rI (rec k)))]) B d_Tx_endOfBracket_15 (by decide) [1, 2, 3, 4, 5, 0] rfl ?_
  refine j_iload B d_Tx_endOfBracket_17 5 rfl ?_
  refine j_if_lt B d_Tx_endOfBracket_19 rfl (fun h19 => ?_) (fun h19 => ?_)
  · -- 19 jump
    have hn0 := rI_neg (fun e h => Nat.le_trans (hr k e hk h) hN) h19
    refine j_iconst (v := (-1)) B d_Tx_endOfBracket_39 (by decide) ?_
    exact j_iret B K (by simp only [eoB, hn0]; rfl) rfl d_Tx_endOfBracket_40
  · -- 19 on
    obtain ⟨e, he⟩ := rI_pos h19
    have hle := hr k e hk he
    rw [he]
    change jW l b D Γ False 0 0 6 (σ) [(0, .ref (b + x)), (1, .int (nI k)), (2, .int c), (3, .int (nI d)), (4, .int (nI Lt)), (5, .int (nI e))] 22 []
    refine j_aload_n B d_Tx_endOfBracket_22 rfl 0 rfl ?_
    refine j_iload B d_Tx_endOfBracket_23 5 rfl ?_
    refine k_callV (as := [.int (nI e)]) (rest := []) (st1 := [.int (sg S N e)]) B (c_Tx_signAt hx hs hS hN (k := e) (by omega)) yf_Tx_signAt w_447 w_448 w_449 rfl hx rfl (by omega) (by decide) rfl rfl (Nat.le_of_ble_eq_true rfl) d_Tx_endOfBracket_25 ?_
    refine j_iload_n B d_Tx_endOfBracket_28 rfl 2 rfl ?_
    refine j_icmp_ne B d_Tx_endOfBracket_29 rfl (fun h29 => ?_) (fun h29 => ?_)
    · -- 29 jump
      refine j_iconst (v := (-1)) B d_Tx_endOfBracket_39 (by decide) ?_
      exact j_iret B K (by simp only [eoB, he, h29, if_true, if_false]; rfl) rfl d_Tx_endOfBracket_40
    · -- 29 on
      refine j_iload B d_Tx_endOfBracket_32 5 rfl ?_
      refine j_iconst (v := 1) B d_Tx_endOfBracket_34 (by decide) ?_
      refine j_iaddE (v := nI (e + 1)) B (nI_add e 1) d_Tx_endOfBracket_35 ?_
      refine j_goto B d_Tx_endOfBracket_36 rfl ?_
      exact j_iret B K (by simp only [eoB, he, h29, if_true, if_false]; rfl) rfl d_Tx_endOfBracket_40
end
section

section KP
variable {l : Launch} {b : Nat} {D : va_G} {ta : Nat → ClassId} {Γ : jG} {ex : Prop} {own : String} {cc : ByteArray} {ret : Option FieldType} {nL cs ss pc : Nat} {rm : Room} {σ : List va_E} {L : List (Nat × Value)} {rest : List Value} {x y v : Int32}
theorem j_iremE (B : jB l b D ta Γ own cc ret nL rm) (hn : ¬ y = 0) (hv : x - x / y * y = v) (hd : decode cc pc = .ok (.irem, 1)) (kk : jW l b D Γ ex cs ss nL σ L (pc + 1) (.int v :: rest)) : jW l b D Γ ex cs ss nL σ L pc (.int y :: .int x :: rest) := by subst hv; exact j_irem B hd hn kk
theorem j_idivE (B : jB l b D ta Γ own cc ret nL rm) (hn : ¬ y = 0) (hv : x / y = v) (hd : decode cc pc = .ok (.idiv, 1)) (kk : jW l b D Γ ex cs ss nL σ L (pc + 1) (.int v :: rest)) : jW l b D Γ ex cs ss nL σ L pc (.int y :: .int x :: rest) := by subst hv; exact j_idiv B hd hn kk
theorem j_tiN (B : jB l b D ta Γ own cc ret nL rm) {f : Nat → Int32} {t k : Nat} (hT : jTab f b Γ t) (hk : k < 4) (hdg : decode cc pc = .ok (.iaload, 1)) (kk : jW l b D Γ ex cs ss nL σ L (pc + 1) (.int (f k) :: rest)) : jW l b D Γ ex cs ss nL σ L pc (.int (nI k) :: .ref t :: rest) := j_ti B hT (j_cl hk (by decide)).2 hdg (by rw [(j_cl hk (by decide)).1]; exact kk)
end KP
/-! the pen: its cell p, its sheet's cells g, h, t, w; its state c, r (where it stands), d (direction), u (down), o (orders done), and the sheet's rows -/
def pO (b g : Nat) (c r : Int32) (d : Nat) (u : Bool) (o : Nat) : va_E := .inr (2, [.ref (b + g), .int c, .int r, .int (nI d), .int (bI u), .int (nI o)])
def aI (ta : Nat → ClassId) (F : Nat → Int32) : va_E := .inl (ta 0, 24, .inl F)
def pS (b : Nat) (ta : Nat → ClassId) (σ : List va_E) (p g h t w : Nat) (c r : Int32) (d : Nat) (u : Bool) (o : Nat) (F0 F1 F2 : Nat → Int32) : List va_E := (((σ.set p (pO b g c r d u o)).set h (aI ta F0)).set t (aI ta F1)).set w (aI ta F2)
def pW (b : Nat) (σ : List va_E) (p g h t w : Nat) : Prop := (p < σ.length ∧ h < σ.length ∧ t < σ.length ∧ w < σ.length) ∧ σ[g]? = some (.inr (0, [.ref (b + h), .ref (b + t), .ref (b + w)])) ∧ (p ≠ g ∧ p ≠ h ∧ p ≠ t ∧ p ≠ w) ∧ (g ≠ h ∧ g ≠ t ∧ g ≠ w) ∧ h ≠ t ∧ h ≠ w ∧ t ≠ w
section PS
variable {b : Nat} {ta : Nat → ClassId} {σ : List va_E} {p g h t w : Nat} {c r c' r' : Int32} {d d' : Nat} {u u' : Bool} {o o' : Nat} {F0 F1 F2 G0 G1 G2 : Nat → Int32}
theorem pS_p (H : pW b σ p g h t w) : (pS b ta σ p g h t w c r d u o F0 F1 F2)[p]? = some (.inr (2, [.ref (b + g), .int c, .int r, .int (nI d), .int (bI u), .int (nI o)])) := by
  obtain ⟨⟨h1, h2, h3, h4⟩, h5, ⟨n1, n2, n3, n4⟩, ⟨n5, n6, n7⟩, n8, n9, n10⟩ := H
  unfold pS
  rw [List.getElem?_set_ne n4.symm, List.getElem?_set_ne n3.symm, List.getElem?_set_ne n2.symm, List.getElem?_set_self h1]
  rfl
theorem pS_g (H : pW b σ p g h t w) : (pS b ta σ p g h t w c r d u o F0 F1 F2)[g]? = some (.inr (0, [.ref (b + h), .ref (b + t), .ref (b + w)])) := by
  obtain ⟨⟨h1, h2, h3, h4⟩, h5, ⟨n1, n2, n3, n4⟩, ⟨n5, n6, n7⟩, n8, n9, n10⟩ := H
  unfold pS
  rw [List.getElem?_set_ne n7.symm, List.getElem?_set_ne n6.symm, List.getElem?_set_ne n5.symm, List.getElem?_set_ne n1]
  exact h5
theorem pS_h (H : pW b σ p g h t w) : (pS b ta σ p g h t w c r d u o F0 F1 F2)[h]? = some (.inl (ta 0, 24, .inl F0)) := by
  obtain ⟨⟨h1, h2, h3, h4⟩, h5, ⟨n1, n2, n3, n4⟩, ⟨n5, n6, n7⟩, n8, n9, n10⟩ := H
  unfold pS
  rw [List.getElem?_set_ne n9.symm, List.getElem?_set_ne n8.symm, List.getElem?_set_self (by simpa using h2)]
  rfl
theorem pS_t (H : pW b σ p g h t w) : (pS b ta σ p g h t w c r d u o F0 F1 F2)[t]? = some (.inl (ta 0, 24, .inl F1)) := by
  obtain ⟨⟨h1, h2, h3, h4⟩, h5, ⟨n1, n2, n3, n4⟩, ⟨n5, n6, n7⟩, n8, n9, n10⟩ := H
  unfold pS
  rw [List.getElem?_set_ne n10.symm, List.getElem?_set_self (by simpa using h3)]
  rfl
theorem pS_w (H : pW b σ p g h t w) : (pS b ta σ p g h t w c r d u o F0 F1 F2)[w]? = some (.inl (ta 0, 24, .inl F2)) := by
  obtain ⟨⟨h1, h2, h3, h4⟩, h5, ⟨n1, n2, n3, n4⟩, ⟨n5, n6, n7⟩, n8, n9, n10⟩ := H
  unfold pS
  rw [List.getElem?_set_self (by simpa using h4)]
  rfl
theorem pS_wp (H : pW b σ p g h t w) : (pS b ta σ p g h t w c r d u o F0 F1 F2).set p (.inr (2, [.ref (b + g), .int c', .int r', .int (nI d'), .int (bI u'), .int (nI o')])) = pS b ta σ p g h t w c' r' d' u' o' F0 F1 F2 := by
  obtain ⟨-, -, ⟨n1, n2, n3, n4⟩, -, n8, n9, n10⟩ := H
  unfold pS
  rw [List.set_comm _ _ n4.symm, List.set_comm _ _ n3.symm, List.set_comm _ _ n2.symm, List.set_set]
  rfl
theorem pS_wf (H : pW b σ p g h t w) : (((pS b ta σ p g h t w c r d u o F0 F1 F2).set h (.inl (ta 0, 24, .inl G0))).set t (.inl (ta 0, 24, .inl G1))).set w (.inl (ta 0, 24, .inl G2)) = pS b ta σ p g h t w c r d u o G0 G1 G2 := by
  obtain ⟨-, -, -, -, n8, n9, n10⟩ := H
  exact s3 n8 n9 n10
theorem pS_pS (H : pW b σ p g h t w) : pS b ta (pS b ta σ p g h t w c r d u o F0 F1 F2) p g h t w c' r' d' u' o' G0 G1 G2 = pS b ta σ p g h t w c' r' d' u' o' G0 G1 G2 := by
  have h1 := pS_wp (c := c) (r := r) (d := d) (u := u) (o := o) (c' := c') (r' := r') (d' := d') (u' := u') (o' := o') (F0 := F0) (F1 := F1) (F2 := F2) (ta := ta) H
  have h2 := pS_wf (c := c') (r := r') (d := d') (u := u') (o := o') (F0 := F0) (F1 := F1) (F2 := F2) (G0 := G0) (G1 := G1) (G2 := G2) (ta := ta) H
  rw [← h2, ← h1]
  rfl
end PS
def cA (c : Int32) (d : Nat) (f a : Int32) : Int32 := c + f * jcs d + a * jcs ((d + 1) % 4)
def rA (r : Int32) (d : Nat) (f a : Int32) : Int32 := r + f * jrs d + a * jrs ((d + 1) % 4)
def mkB (u : Bool) (F : Nat → Int32) (c r k : Int32) : Nat → Int32 := if u = true then pB F c r 3 k else F
end
section
set_option maxRecDepth 100000 in
set_option maxHeartbeats 4000000 in
theorem c_Pe_columnAt {l : Launch} {b : Nat} {D : va_G} {ta : Nat → ClassId} {σ : List va_E} {p g h t w : Nat} (H : pW b σ p g h t w) {c r : Int32} {d : Nat} {u : Bool} {o : Nat} {F0 F1 F2 : Nat → Int32} (hd : d < 4) (f a : Int32) : jC l b D ta False y_Pe_columnAt b_Pe_columnAt 3 (some .int) (rL 0) [.ref (b + p), .int f, .int a] (pS b ta σ p g h t w c r d u o F0 F1 F2) (some (.int (cA c d f a))) (pS b ta σ p g h t w c r d u o F0 F1 F2) := by
  refine jC_of (own := "WireField$Pen") (by decide +kernel) (Nat.le_of_ble_eq_true rfl) rfl (fun Γ B K => ?_)
  change jW l b D Γ False 0 0 3 (pS b ta σ p g h t w c r d u o F0 F1 F2) [(0, .ref (b + p)), (1, .int f), (2, .int a)] 0 []
  refine j_aload_n B d_Pe_columnAt_0 rfl 0 rfl ?_
  refine gf_Pe_18 B (pS_p H) rfl d_Pe_columnAt_1 ?_
  refine j_iload_n B d_Pe_columnAt_4 rfl 1 rfl ?_
  refine j_colsN B w_627 d_Pe_columnAt_5 (fun t5 ht5 => ?_)
  refine j_aload_n B d_Pe_columnAt_8 rfl 0 rfl ?_
  refine gf_Pe_25 B (pS_p H) rfl d_Pe_columnAt_9 ?_
  refine j_tiN B ht5 (by omega) d_Pe_columnAt_12 ?_
  refine j_imul B d_Pe_columnAt_13 ?_
  refine j_iadd B d_Pe_columnAt_14 ?_
  refine j_iload_n B d_Pe_columnAt_15 rfl 2 rfl ?_
  refine j_colsN B w_627 d_Pe_columnAt_16 (fun t16 ht16 => ?_)
  refine j_aload_n B d_Pe_columnAt_19 rfl 0 rfl ?_
  refine gf_Pe_25 B (pS_p H) rfl d_Pe_columnAt_20 ?_
  refine j_iconst (v := 1) B d_Pe_columnAt_23 (by decide) ?_
  refine j_iaddE (v := nI (d + 1)) B (nI_add d 1) d_Pe_columnAt_24 ?_
  refine j_iconst (v := 4) B d_Pe_columnAt_25 (by decide) ?_
  refine j_iremE (v := nI ((d + 1) % 4)) B (by decide) (pk_rem (a := (d + 1)) (d := 4) (by omega) (by decide) (by decide)) d_Pe_columnAt_26 ?_
  refine j_tiN B ht16 (by omega) d_Pe_columnAt_27 ?_
  refine j_imul B d_Pe_columnAt_28 ?_
  refine j_iadd B d_Pe_columnAt_29 ?_
  exact j_iret B K rfl rfl d_Pe_columnAt_30
set_option maxRecDepth 100000 in
set_option maxHeartbeats 4000000 in
theorem c_Pe_rowAt {l : Launch} {b : Nat} {D : va_G} {ta : Nat → ClassId} {σ : List va_E} {p g h t w : Nat} (H : pW b σ p g h t w) {c r : Int32} {d : Nat} {u : Bool} {o : Nat} {F0 F1 F2 : Nat → Int32} (hd : d < 4) (f a : Int32) : jC l b D ta False y_Pe_rowAt b_Pe_rowAt 3 (some .int) (rL 0) [.ref (b + p), .int f, .int a] (pS b ta σ p g h t w c r d u o F0 F1 F2) (some (.int (rA r d f a))) (pS b ta σ p g h t w c r d u o F0 F1 F2) := by
  refine jC_of (own := "WireField$Pen") (by decide +kernel) (Nat.le_of_ble_eq_true rfl) rfl (fun Γ B K => ?_)
  change jW l b D Γ False 0 0 3 (pS b ta σ p g h t w c r d u o F0 F1 F2) [(0, .ref (b + p)), (1, .int f), (2, .int a)] 0 []
  refine j_aload_n B d_Pe_rowAt_0 rfl 0 rfl ?_
  refine gf_Pe_22 B (pS_p H) rfl d_Pe_rowAt_1 ?_
  refine j_iload_n B d_Pe_rowAt_4 rfl 1 rfl ?_
  refine j_rowsN B w_633 d_Pe_rowAt_5 (fun t5 ht5 => ?_)
  refine j_aload_n B d_Pe_rowAt_8 rfl 0 rfl ?_
  refine gf_Pe_25 B (pS_p H) rfl d_Pe_rowAt_9 ?_
  refine j_tiN B ht5 (by omega) d_Pe_rowAt_12 ?_
  refine j_imul B d_Pe_rowAt_13 ?_
  refine j_iadd B d_Pe_rowAt_14 ?_
  refine j_iload_n B d_Pe_rowAt_15 rfl 2 rfl ?_
  refine j_rowsN B w_633 d_Pe_rowAt_16 (fun t16 ht16 => ?_)
  refine j_aload_n B d_Pe_rowAt_19 rfl 0 rfl ?_
  refine gf_Pe_25 B (pS_p H) rfl d_Pe_rowAt_20 ?_
  refine j_iconst (v := 1) B d_Pe_rowAt_23 (by decide) ?_
  refine j_iaddE (v := nI (d + 1)) B (nI_add d 1) d_Pe_rowAt_24 ?_
  refine j_iconst (v := 4) B d_Pe_rowAt_25 (by decide) ?_
  refine j_iremE (v := nI ((d + 1) % 4)) B (by decide) (pk_rem (a := (d + 1)) (d := 4) (by omega) (by decide) (by decide)) d_Pe_rowAt_26 ?_
  refine j_tiN B ht16 (by omega) d_Pe_rowAt_27 ?_
  refine j_imul B d_Pe_rowAt_28 ?_
  refine j_iadd B d_Pe_rowAt_29 ?_
  exact j_iret B K rfl rfl d_Pe_rowAt_30
set_option maxRecDepth 100000 in
set_option maxHeartbeats 4000000 in
theorem c_Pe_hasCell {l : Launch} {b : Nat} {D : va_G} {ta : Nat → ClassId} {σ : List va_E} {p g h t w : Nat} (H : pW b σ p g h t w) {c r : Int32} {d : Nat} {u : Bool} {o : Nat} {F0 F1 F2 : Nat → Int32} (hd : d < 4) (f a : Int32) : jC l b D ta False y_Pe_hasCell b_Pe_hasCell 3 (some .boolean) (rL 1) [.ref (b + p), .int f, .int a] (pS b ta σ p g h t w c r d u o F0 F1 F2) (some (.int (bI (inF (cA c d f a) (rA r d f a))))) (pS b ta σ p g h t w c r d u o F0 F1 F2) := by
  refine jC_of (own := "WireField$Pen") (by decide +kernel) (Nat.le_of_ble_eq_true rfl) rfl (fun Γ B K => ?_)
  change jW l b D Γ False 0 0 3 (pS b ta σ p g h t w c r d u o F0 F1 F2) [(0, .ref (b + p)), (1, .int f), (2, .int a)] 0 []
  refine j_aload_n B d_Pe_hasCell_0 rfl 0 rfl ?_
  refine j_iload_n B d_Pe_hasCell_1 rfl 1 rfl ?_
  refine j_iload_n B d_Pe_hasCell_2 rfl 2 rfl ?_
  refine k_callV (as := [.int f, .int a]) (rest := []) (st1 := [.int (cA c d f a)]) B (c_Pe_columnAt H hd f a) yf_Pe_columnAt w_623 w_625 w_s17 rfl (pS_p H) rfl (by decide) (by decide) rfl rfl (Nat.le_of_ble_eq_true rfl) d_Pe_hasCell_3 ?_
  refine j_aload_n B d_Pe_hasCell_6 rfl 0 rfl ?_
  refine j_iload_n B d_Pe_hasCell_7 rfl 1 rfl ?_
  refine j_iload_n B d_Pe_hasCell_8 rfl 2 rfl ?_
  refine k_callV (as := [.int f, .int a]) (rest := [.int (cA c d f a)]) (st1 := [.int (rA r d f a), .int (cA c d f a)]) B (c_Pe_rowAt H hd f a) yf_Pe_rowAt w_629 w_631 w_s18 rfl (pS_p H) rfl (by decide) (by decide) rfl rfl (Nat.le_of_ble_eq_true rfl) d_Pe_hasCell_9 ?_
  refine k_callSN (as := [.int (cA c d f a), .int (rA r d f a)]) (rest := []) (st1 := [.int (bI (inF (cA c d f a) (rA r d f a)))]) B (c_WF_isWithin (cA c d f a) (rA r d f a)) yf_WF_isWithin w_635 w_227 rfl (by decide) (by decide) rfl rfl (Nat.le_of_ble_eq_true rfl) d_Pe_hasCell_12 ?_
  exact j_zret B K (bI_nar _) rfl rfl d_Pe_hasCell_15
set_option maxRecDepth 100000 in
set_option maxHeartbeats 4000000 in
theorem c_Pe_mark {l : Launch} {b : Nat} {D : va_G} {ta : Nat → ClassId} {σ : List va_E} {p g h t w : Nat} (H : pW b σ p g h t w) {c r : Int32} {d : Nat} {u : Bool} {o : Nat} {F0 F1 F2 : Nat → Int32} (hd : d < 4) (f a : Int32) : jC l b D ta False y_Pe_mark b_Pe_mark 3 none (rL 2) [.ref (b + p), .int f, .int a] (pS b ta σ p g h t w c r d u o F0 F1 F2) none (pS b ta σ p g h t w c r d u o (mkB u F0 (cA c d f a) (rA r d f a) 1) (mkB u F1 (cA c d f a) (rA r d f a) 2) (mkB u F2 (cA c d f a) (rA r d f a) 3)) := by
  refine jC_of (own := "WireField$Pen") (by decide +kernel) (Nat.le_of_ble_eq_true rfl) rfl (fun Γ B K => ?_)
  change jW l b D Γ False 0 0 3 (pS b ta σ p g h t w c r d u o F0 F1 F2) [(0, .ref (b + p)), (1, .int f), (2, .int a)] 0 []
  refine j_aload_n B d_Pe_mark_0 rfl 0 rfl ?_
  refine gf_Pe_28 B (pS_p H) rfl d_Pe_mark_1 ?_
  refine j_if_eq B d_Pe_mark_4 rfl (fun h4 => ?_) (fun h4 => ?_)
  · -- 4 jump
    replace h4 := bI_f h4
    exact j_vret B K (by simp only [mkB, h4, Bool.false_eq_true, if_true, if_false]) d_Pe_mark_27
  · -- 4 on
    replace h4 := bI_t h4
    refine j_aload_n B d_Pe_mark_7 rfl 0 rfl ?_
    refine gf_Pe_12 B (pS_p H) rfl d_Pe_mark_8 ?_
    refine j_aload_n B d_Pe_mark_11 rfl 0 rfl ?_
    refine j_iload_n B d_Pe_mark_12 rfl 1 rfl ?_
    refine j_iload_n B d_Pe_mark_13 rfl 2 rfl ?_
    refine k_callV (as := [.int f, .int a]) (rest := [.ref (b + g)]) (st1 := [.int (cA c d f a), .ref (b + g)]) B (c_Pe_columnAt H hd f a) yf_Pe_columnAt w_623 w_625 w_s17 rfl (pS_p H) rfl (by decide) (by decide) rfl rfl (Nat.le_of_ble_eq_true rfl) d_Pe_mark_14 ?_
    refine j_aload_n B d_Pe_mark_17 rfl 0 rfl ?_
    refine j_iload_n B d_Pe_mark_18 rfl 1 rfl ?_
    refine j_iload_n B d_Pe_mark_19 rfl 2 rfl ?_
    refine k_callV (as := [.int f, .int a]) (rest := [.int (cA c d f a), .ref (b + g)]) (st1 := [.int (rA r d f a), .int (cA c d f a), .ref (b + g)]) B (c_Pe_rowAt H hd f a) yf_Pe_rowAt w_629 w_631 w_s18 rfl (pS_p H) rfl (by decide) (by decide) rfl rfl (Nat.le_of_ble_eq_true rfl) d_Pe_mark_20 ?_
    refine j_iconst (v := 3) B d_Pe_mark_23 (by decide) ?_
    refine k_callV (as := [.int (cA c d f a), .int (rA r d f a), .int 3]) (rest := []) (st1 := []) B (c_G_put (pS_g H) (pS_h H) (pS_t H) (pS_w H) H.2.2.2.2.1 H.2.2.2.2.2.1 H.2.2.2.2.2.2 H.2.2.2.1.1 H.2.2.2.1.2.1 H.2.2.2.1.2.2 (cA c d f a) (rA r d f a) 3) yf_G_put w_640 w_230 w_231 rfl (pS_g H) rfl (by decide) (by decide) rfl rfl (Nat.le_of_ble_eq_true rfl) d_Pe_mark_24 ?_
    refine jW.heap (σ2 := pS b ta σ p g h t w c r d u o (pB F0 (cA c d f a) (rA r d f a) 3 1) (pB F1 (cA c d f a) (rA r d f a) 3 2) (pB F2 (cA c d f a) (rA r d f a) 3 3)) (pS_wf H) ?_
    exact j_vret B K (by simp only [mkB, h4, Bool.false_eq_true, if_true, if_false]) d_Pe_mark_27
set_option maxRecDepth 100000 in
set_option maxHeartbeats 4000000 in
theorem c_Pe_move_t {l : Launch} {b : Nat} {D : va_G} {ta : Nat → ClassId} {σ : List va_E} {p g h t w : Nat} (H : pW b σ p g h t w) {c r : Int32} {d : Nat} {u : Bool} {o : Nat} {F0 F1 F2 : Nat → Int32} (hd : d < 4) (f : Int32) (hin : inF (cA c d f 0) (rA r d f 0) = true) : jC l b D ta False y_Pe_move b_Pe_move 4 (some .boolean) (rL 1) [.ref (b + p), .int f] (pS b ta σ p g h t w c r d u o F0 F1 F2) (some (.int 1)) (pS b ta σ p g h t w (cA c d f 0) (rA r d f 0) d u o F0 F1 F2) := by
  refine jC_of (own := "WireField$Pen") (by decide +kernel) (Nat.le_of_ble_eq_true rfl) rfl (fun Γ B K => ?_)
  change jW l b D Γ False 0 0 4 (pS b ta σ p g h t w c r d u o F0 F1 F2) [(0, .ref (b + p)), (1, .int f)] 0 []
  refine j_aload_n B d_Pe_move_0 rfl 0 rfl ?_
  refine j_iload_n B d_Pe_move_1 rfl 1 rfl ?_
  refine j_iconst (v := 0) B d_Pe_move_2 (by decide) ?_
  refine k_callV (as := [.int f, .int 0]) (rest := []) (st1 := [.int (cA c d f 0)]) B (c_Pe_columnAt H hd f 0) yf_Pe_columnAt w_623 w_625 w_s17 rfl (pS_p H) rfl (by decide) (by decide) rfl rfl (Nat.le_of_ble_eq_true rfl) d_Pe_move_3 ?_
  refine j_istore_n (L' := [(0, .ref (b + p)), (1, .int f), (2, .int (cA c d f 0))]) B d_Pe_move_6 rfl (by decide) [1, 2, 0] rfl ?_
  refine j_aload_n B d_Pe_move_7 rfl 0 rfl ?_
  refine j_iload_n B d_Pe_move_8 rfl 1 rfl ?_
  refine j_iconst (v := 0) B d_Pe_move_9 (by decide) ?_
  refine k_callV (as := [.int f, .int 0]) (rest := []) (st1 := [.int (rA r d f 0)]) B (c_Pe_rowAt H hd f 0) yf_Pe_rowAt w_629 w_631 w_s18 rfl (pS_p H) rfl (by decide) (by decide) rfl rfl (Nat.le_of_ble_eq_true rfl) d_Pe_move_10 ?_
  refine j_istore_n (L' := [(0, .ref (b + p)), (1, .int f), (2, .int (cA c d f 0)), (3, .int (rA r d f 0))]) B d_Pe_move_13 rfl (by decide) [1, 2, 3, 0] rfl ?_
  refine j_iload_n B d_Pe_move_14 rfl 2 rfl ?_
  refine j_iload_n B d_Pe_move_15 rfl 3 rfl ?_
  refine k_callSN (as := [.int (cA c d f 0), .int (rA r d f 0)]) (rest := []) (st1 := [.int (bI (inF (cA c d f 0) (rA r d f 0)))]) B (c_WF_isWithin (cA c d f 0) (rA r d f 0)) yf_WF_isWithin w_635 w_227 rfl (by decide) (by decide) rfl rfl (Nat.le_of_ble_eq_true rfl) d_Pe_move_16 ?_
  refine j_if_ne B d_Pe_move_19 rfl (fun h19 => ?_) (fun h19 => absurd (bI_f h19) (by rw [hin]; decide))
  refine j_aload_n B d_Pe_move_24 rfl 0 rfl ?_
  refine j_iload_n B d_Pe_move_25 rfl 2 rfl ?_
  refine pf_Pe_18 B not_false (pS_p H) rfl rfl (Nat.le_of_ble_eq_true rfl) d_Pe_move_26 ?_
  refine jW.heap (σ2 := pS b ta σ p g h t w (cA c d f 0) r d u o F0 F1 F2) (pS_wp H) ?_
  refine j_aload_n B d_Pe_move_29 rfl 0 rfl ?_
  refine j_iload_n B d_Pe_move_30 rfl 3 rfl ?_
  refine pf_Pe_22 B not_false (pS_p H) rfl rfl (Nat.le_of_ble_eq_true rfl) d_Pe_move_31 ?_
  refine jW.heap (σ2 := pS b ta σ p g h t w (cA c d f 0) (rA r d f 0) d u o F0 F1 F2) (pS_wp H) ?_
  refine j_iconst (v := 1) B d_Pe_move_34 (by decide) ?_
  exact j_zret B K (by decide) rfl rfl d_Pe_move_35
set_option maxRecDepth 100000 in
set_option maxHeartbeats 4000000 in
theorem c_Pe_move_f {l : Launch} {b : Nat} {D : va_G} {ta : Nat → ClassId} {σ : List va_E} {p g h t w : Nat} (H : pW b σ p g h t w) {c r : Int32} {d : Nat} {u : Bool} {o : Nat} {F0 F1 F2 : Nat → Int32} (hd : d < 4) (f : Int32) (hin : inF (cA c d f 0) (rA r d f 0) = false) : jC l b D ta False y_Pe_move b_Pe_move 4 (some .boolean) (rL 1) [.ref (b + p), .int f] (pS b ta σ p g h t w c r d u o F0 F1 F2) (some (.int 0)) (pS b ta σ p g h t w c r d u o F0 F1 F2) := by
  refine jC_of (own := "WireField$Pen") (by decide +kernel) (Nat.le_of_ble_eq_true rfl) rfl (fun Γ B K => ?_)
  change jW l b D Γ False 0 0 4 (pS b ta σ p g h t w c r d u o F0 F1 F2) [(0, .ref (b + p)), (1, .int f)] 0 []
  refine j_aload_n B d_Pe_move_0 rfl 0 rfl ?_
  refine j_iload_n B d_Pe_move_1 rfl 1 rfl ?_
  refine j_iconst (v := 0) B d_Pe_move_2 (by decide) ?_
  refine k_callV (as := [.int f, .int 0]) (rest := []) (st1 := [.int (cA c d f 0)]) B (c_Pe_columnAt H hd f 0) yf_Pe_columnAt w_623 w_625 w_s17 rfl (pS_p H) rfl (by decide) (by decide) rfl rfl (Nat.le_of_ble_eq_true rfl) d_Pe_move_3 ?_
  refine j_istore_n (L' := [(0, .ref (b + p)), (1, .int f), (2, .int (cA c d f 0))]) B d_Pe_move_6 rfl (by decide) [1, 2, 0] rfl ?_
  refine j_aload_n B d_Pe_move_7 rfl 0 rfl ?_
  refine j_iload_n B d_Pe_move_8 rfl 1 rfl ?_
  refine j_iconst (v := 0) B d_Pe_move_9 (by decide) ?_
  refine k_callV (as := [.int f, .int 0]) (rest := []) (st1 := [.int (rA r d f 0)]) B (c_Pe_rowAt H hd f 0) yf_Pe_rowAt w_629 w_631 w_s18 rfl (pS_p H) rfl (by decide) (by decide) rfl rfl (Nat.le_of_ble_eq_true rfl) d_Pe_move_10 ?_
  refine j_istore_n (L' := [(0, .ref (b + p)), (1, .int f), (2, .int (cA c d f 0)), (3, .int (rA r d f 0))]) B d_Pe_move_13 rfl (by decide) [1, 2, 3, 0] rfl ?_
  refine j_iload_n B d_Pe_move_14 rfl 2 rfl ?_
  refine j_iload_n B d_Pe_move_15 rfl 3 rfl ?_
  refine k_callSN (as := [.int (cA c d f 0), .int (rA r d f 0)]) (rest := []) (st1 := [.int (bI (inF (cA c d f 0) (rA r d f 0)))]) B (c_WF_isWithin (cA c d f 0) (rA r d f 0)) yf_WF_isWithin w_635 w_227 rfl (by decide) (by decide) rfl rfl (Nat.le_of_ble_eq_true rfl) d_Pe_move_16 ?_
  refine j_if_ne B d_Pe_move_19 rfl (fun h19 => absurd (bI_t h19) (by rw [hin]; decide)) (fun h19 => ?_)
  refine j_iconst (v := 0) B d_Pe_move_22 (by decide) ?_
  exact j_zret B K (by decide) rfl rfl d_Pe_move_23
set_option maxRecDepth 100000 in
set_option maxHeartbeats 4000000 in
theorem c_Pe_drawForward_t {l : Launch} {b : Nat} {D : va_G} {ta : Nat → ClassId} {σ : List va_E} {p g h t w : Nat} (H : pW b σ p g h t w) {c r : Int32} {d : Nat} {u : Bool} {o : Nat} {F0 F1 F2 : Nat → Int32} (hd : d < 4) (hin : inF (cA c d 1 0) (rA r d 1 0) = true) : jC l b D ta False y_Pe_drawForward b_Pe_drawForward 1 (some .boolean) (rL 3) [.ref (b + p)] (pS b ta σ p g h t w c r d u o F0 F1 F2) (some (.int 1)) (pS b ta σ p g h t w (cA c d 1 0) (rA r d 1 0) d u o (mkB u F0 (cA (cA c d 1 0) d 0 0) (rA (rA r d 1 0) d 0 0) 1) (mkB u F1 (cA (cA c d 1 0) d 0 0) (rA (rA r d 1 0) d 0 0) 2) (mkB u F2 (cA (cA c d 1 0) d 0 0) (rA (rA r d 1 0) d 0 0) 3)) := by
  refine jC_of (own := "WireField$Pen") (by decide +kernel) (Nat.le_of_ble_eq_true rfl) rfl (fun Γ B K => ?_)
  change jW l b D Γ False 0 0 1 (pS b ta σ p g h t w c r d u o F0 F1 F2) [(0, .ref (b + p))] 0 []
  refine j_aload_n B d_Pe_drawForward_0 rfl 0 rfl ?_
  refine j_iconst (v := 1) B d_Pe_drawForward_1 (by decide) ?_
  refine k_callV (as := [.int 1]) (rest := []) (st1 := [.int 1]) B (c_Pe_move_t H hd 1 hin) yf_Pe_move w_619 w_621 w_s16 rfl (pS_p H) rfl (by decide) (by decide) rfl rfl (Nat.le_of_ble_eq_true rfl) d_Pe_drawForward_2 ?_
  refine j_if_ne B d_Pe_drawForward_5 rfl (fun h5 => ?_) (fun h5 => absurd h5 (by decide))
  refine j_aload_n B d_Pe_drawForward_10 rfl 0 rfl ?_
  refine j_iconst (v := 0) B d_Pe_drawForward_11 (by decide) ?_
  refine j_iconst (v := 0) B d_Pe_drawForward_12 (by decide) ?_
  refine k_callV (as := [.int 0, .int 0]) (rest := []) (st1 := []) B (c_Pe_mark H hd 0 0) yf_Pe_mark w_636 w_638 w_s19 rfl (pS_p H) rfl (by decide) (by decide) rfl rfl (Nat.le_of_ble_eq_true rfl) d_Pe_drawForward_13 ?_
  refine j_iconst (v := 1) B d_Pe_drawForward_16 (by decide) ?_
  exact j_zret B K (by decide) rfl rfl d_Pe_drawForward_17
set_option maxRecDepth 100000 in
set_option maxHeartbeats 4000000 in
theorem c_Pe_drawForward_f {l : Launch} {b : Nat} {D : va_G} {ta : Nat → ClassId} {σ : List va_E} {p g h t w : Nat} (H : pW b σ p g h t w) {c r : Int32} {d : Nat} {u : Bool} {o : Nat} {F0 F1 F2 : Nat → Int32} (hd : d < 4) (hin : inF (cA c d 1 0) (rA r d 1 0) = false) : jC l b D ta False y_Pe_drawForward b_Pe_drawForward 1 (some .boolean) (rL 3) [.ref (b + p)] (pS b ta σ p g h t w c r d u o F0 F1 F2) (some (.int 0)) (pS b ta σ p g h t w c r d u o F0 F1 F2) := by
  refine jC_of (own := "WireField$Pen") (by decide +kernel) (Nat.le_of_ble_eq_true rfl) rfl (fun Γ B K => ?_)
  change jW l b D Γ False 0 0 1 (pS b ta σ p g h t w c r d u o F0 F1 F2) [(0, .ref (b + p))] 0 []
  refine j_aload_n B d_Pe_drawForward_0 rfl 0 rfl ?_
  refine j_iconst (v := 1) B d_Pe_drawForward_1 (by decide) ?_
  refine k_callV (as := [.int 1]) (rest := []) (st1 := [.int 0]) B (c_Pe_move_f H hd 1 hin) yf_Pe_move w_619 w_621 w_s16 rfl (pS_p H) rfl (by decide) (by decide) rfl rfl (Nat.le_of_ble_eq_true rfl) d_Pe_drawForward_2 ?_
  refine j_if_ne B d_Pe_drawForward_5 rfl (fun h5 => absurd rfl h5) (fun h5 => ?_)
  refine j_iconst (v := 0) B d_Pe_drawForward_8 (by decide) ?_
  exact j_zret B K (by decide) rfl rfl d_Pe_drawForward_9
set_option maxRecDepth 100000 in
set_option maxHeartbeats 4000000 in
theorem c_Pe_putElectron {l : Launch} {b : Nat} {D : va_G} {ta : Nat → ClassId} {σ : List va_E} {p g h t w : Nat} (H : pW b σ p g h t w) {c r : Int32} {d : Nat} {u : Bool} {o : Nat} {F0 F1 F2 : Nat → Int32} (hd : d < 4) : jC l b D ta False y_Pe_putElectron b_Pe_putElectron 3 none (rL 2) [.ref (b + p)] (pS b ta σ p g h t w c r d u o F0 F1 F2) none (pS b ta σ p g h t w c r d u o (if fVal (pB F0 c r 1 1) (pB F1 c r 1 2) (pB F2 c r 1 3) (cA c d (-1) 0) (rA r d (-1) 0) = 3 then pB (pB F0 c r 1 1) (cA c d (-1) 0) (rA r d (-1) 0) 2 1 else pB F0 c r 1 1) (if fVal (pB F0 c r 1 1) (pB F1 c r 1 2) (pB F2 c r 1 3) (cA c d (-1) 0) (rA r d (-1) 0) = 3 then pB (pB F1 c r 1 2) (cA c d (-1) 0) (rA r d (-1) 0) 2 2 else pB F1 c r 1 2) (if fVal (pB F0 c r 1 1) (pB F1 c r 1 2) (pB F2 c r 1 3) (cA c d (-1) 0) (rA r d (-1) 0) = 3 then pB (pB F2 c r 1 3) (cA c d (-1) 0) (rA r d (-1) 0) 2 3 else pB F2 c r 1 3)) := by
  refine jC_of (own := "WireField$Pen") (by decide +kernel) (Nat.le_of_ble_eq_true rfl) rfl (fun Γ B K => ?_)
  change jW l b D Γ False 0 0 3 (pS b ta σ p g h t w c r d u o F0 F1 F2) [(0, .ref (b + p))] 0 []
  refine j_aload_n B d_Pe_putElectron_0 rfl 0 rfl ?_
  refine gf_Pe_12 B (pS_p H) rfl d_Pe_putElectron_1 ?_
  refine j_aload_n B d_Pe_putElectron_4 rfl 0 rfl ?_
  refine gf_Pe_18 B (pS_p H) rfl d_Pe_putElectron_5 ?_
  refine j_aload_n B d_Pe_putElectron_8 rfl 0 rfl ?_
  refine gf_Pe_22 B (pS_p H) rfl d_Pe_putElectron_9 ?_
  refine j_iconst (v := 1) B d_Pe_putElectron_12 (by decide) ?_
  refine k_callV (as := [.int c, .int r, .int 1]) (rest := []) (st1 := []) B (c_G_put (pS_g H) (pS_h H) (pS_t H) (pS_w H) H.2.2.2.2.1 H.2.2.2.2.2.1 H.2.2.2.2.2.2 H.2.2.2.1.1 H.2.2.2.1.2.1 H.2.2.2.1.2.2 c r 1) yf_G_put w_640 w_230 w_231 rfl (pS_g H) rfl (by decide) (by decide) rfl rfl (Nat.le_of_ble_eq_true rfl) d_Pe_putElectron_13 ?_
  refine jW.heap (σ2 := pS b ta σ p g h t w c r d u o (pB F0 c r 1 1) (pB F1 c r 1 2) (pB F2 c r 1 3)) (pS_wf H) ?_
  refine j_aload_n B d_Pe_putElectron_16 rfl 0 rfl ?_
  refine j_iconst (v := (-1)) B d_Pe_putElectron_17 (by decide) ?_
  refine j_iconst (v := 0) B d_Pe_putElectron_18 (by decide) ?_
  refine k_callV (as := [.int (-1), .int 0]) (rest := []) (st1 := [.int (cA c d (-1) 0)]) B (c_Pe_columnAt H hd (-1) 0) yf_Pe_columnAt w_623 w_625 w_s17 rfl (pS_p H) rfl (by decide) (by decide) rfl rfl (Nat.le_of_ble_eq_true rfl) d_Pe_putElectron_19 ?_
  refine j_istore_n (L' := [(0, .ref (b + p)), (1, .int (cA c d (-1) 0))]) B d_Pe_putElectron_22 rfl (by decide) [1, 0] rfl ?_
  refine j_aload_n B d_Pe_putElectron_23 rfl 0 rfl ?_
  refine j_iconst (v := (-1)) B d_Pe_putElectron_24 (by decide) ?_
  refine j_iconst (v := 0) B d_Pe_putElectron_25 (by decide) ?_
  refine k_callV (as := [.int (-1), .int 0]) (rest := []) (st1 := [.int (rA r d (-1) 0)]) B (c_Pe_rowAt H hd (-1) 0) yf_Pe_rowAt w_629 w_631 w_s18 rfl (pS_p H) rfl (by decide) (by decide) rfl rfl (Nat.le_of_ble_eq_true rfl) d_Pe_putElectron_26 ?_
  refine j_istore_n (L' := [(0, .ref (b + p)), (1, .int (cA c d (-1) 0)), (2, .int (rA r d (-1) 0))]) B d_Pe_putElectron_29 rfl (by decide) [1, 2, 0] rfl ?_
  refine j_aload_n B d_Pe_putElectron_30 rfl 0 rfl ?_
  refine gf_Pe_12 B (pS_p H) rfl d_Pe_putElectron_31 ?_
  refine j_iload_n B d_Pe_putElectron_34 rfl 1 rfl ?_
  refine j_iload_n B d_Pe_putElectron_35 rfl 2 rfl ?_
  refine k_callV (as := [.int (cA c d (-1) 0), .int (rA r d (-1) 0)]) (rest := []) (st1 := [.int (fVal (pB F0 c r 1 1) (pB F1 c r 1 2) (pB F2 c r 1 3) (cA c d (-1) 0) (rA r d (-1) 0))]) B (c_G_valueAt (pS_g H) (pS_h H) (pS_t H) (pS_w H) (cA c d (-1) 0) (rA r d (-1) 0)) yf_G_valueAt w_645 w_243 w_244 rfl (pS_g H) rfl (by decide) (by decide) rfl rfl (Nat.le_of_ble_eq_true rfl) d_Pe_putElectron_36 ?_
  refine j_iconst (v := 3) B d_Pe_putElectron_39 (by decide) ?_
  refine j_icmp_ne B d_Pe_putElectron_40 rfl (fun h40 => ?_) (fun h40 => ?_)
  · -- 40 jump
    exact j_vret B K (by simp only [h40, if_true, if_false]) d_Pe_putElectron_53
  · -- 40 on
    refine j_aload_n B d_Pe_putElectron_43 rfl 0 rfl ?_
    refine gf_Pe_12 B (pS_p H) rfl d_Pe_putElectron_44 ?_
    refine j_iload_n B d_Pe_putElectron_47 rfl 1 rfl ?_
    refine j_iload_n B d_Pe_putElectron_48 rfl 2 rfl ?_
    refine j_iconst (v := 2) B d_Pe_putElectron_49 (by decide) ?_
    refine k_callV (as := [.int (cA c d (-1) 0), .int (rA r d (-1) 0), .int 2]) (rest := []) (st1 := []) B (c_G_put (pS_g H) (pS_h H) (pS_t H) (pS_w H) H.2.2.2.2.1 H.2.2.2.2.2.1 H.2.2.2.2.2.2 H.2.2.2.1.1 H.2.2.2.1.2.1 H.2.2.2.1.2.2 (cA c d (-1) 0) (rA r d (-1) 0) 2) yf_G_put w_640 w_230 w_231 rfl (pS_g H) rfl (by decide) (by decide) rfl rfl (Nat.le_of_ble_eq_true rfl) d_Pe_putElectron_50 ?_
    refine jW.heap (σ2 := pS b ta σ p g h t w c r d u o (pB (pB F0 c r 1 1) (cA c d (-1) 0) (rA r d (-1) 0) 2 1) (pB (pB F1 c r 1 2) (cA c d (-1) 0) (rA r d (-1) 0) 2 2) (pB (pB F2 c r 1 3) (cA c d (-1) 0) (rA r d (-1) 0) 2 3)) (pS_wf H) ?_
    exact j_vret B K (by simp only [h40, if_true, if_false]) d_Pe_putElectron_53
set_option maxRecDepth 100000 in
set_option maxHeartbeats 4000000 in
theorem c_Pe_countOrder_t {l : Launch} {b : Nat} {D : va_G} {ta : Nat → ClassId} {σ : List va_E} {p g h t w : Nat} (H : pW b σ p g h t w) {c r : Int32} {d : Nat} {u : Bool} {o : Nat} {F0 F1 F2 : Nat → Int32} (hd : d < 4) (ho : o < 400) : jC l b D ta False y_Pe_countOrder b_Pe_countOrder 1 (some .boolean) (rL 0) [.ref (b + p)] (pS b ta σ p g h t w c r d u o F0 F1 F2) (some (.int 1)) (pS b ta σ p g h t w c r d u (o + 1) F0 F1 F2) := by
  refine jC_of (own := "WireField$Pen") (by decide +kernel) (Nat.le_of_ble_eq_true rfl) rfl (fun Γ B K => ?_)
  change jW l b D Γ False 0 0 1 (pS b ta σ p g h t w c r d u o F0 F1 F2) [(0, .ref (b + p))] 0 []
  refine j_aload_n B d_Pe_countOrder_0 rfl 0 rfl ?_
  refine gf_Pe_32 B (pS_p H) rfl d_Pe_countOrder_1 ?_
  refine j_sipush (v := 400) B d_Pe_countOrder_4 (by decide) ?_
  refine j_icmp_lt B d_Pe_countOrder_7 rfl (fun h7 => ?_) (fun h7 => absurd (nI_lt (a := o) (b := 400) ho (by decide)) h7)
  refine j_aload_n B d_Pe_countOrder_12 rfl 0 rfl ?_
  refine j_dup B d_Pe_countOrder_13 rfl ?_
  refine gf_Pe_32 B (pS_p H) rfl d_Pe_countOrder_14 ?_
  refine j_iconst (v := 1) B d_Pe_countOrder_17 (by decide) ?_
  refine j_iaddE (v := nI (o + 1)) B (nI_add o 1) d_Pe_countOrder_18 ?_
  refine pf_Pe_32 B not_false (pS_p H) rfl rfl (Nat.le_of_ble_eq_true rfl) d_Pe_countOrder_19 ?_
  refine jW.heap (σ2 := pS b ta σ p g h t w c r d u (o + 1) F0 F1 F2) (pS_wp H) ?_
  refine j_iconst (v := 1) B d_Pe_countOrder_22 (by decide) ?_
  exact j_zret B K (by decide) rfl rfl d_Pe_countOrder_23
set_option maxRecDepth 100000 in
set_option maxHeartbeats 4000000 in
theorem c_Pe_countOrder_f {l : Launch} {b : Nat} {D : va_G} {ta : Nat → ClassId} {σ : List va_E} {p g h t w : Nat} (H : pW b σ p g h t w) {c r : Int32} {d : Nat} {u : Bool} {o : Nat} {F0 F1 F2 : Nat → Int32} (hd : d < 4) (ho : ¬ o < 400) (ho2 : o < 2 ^ 31) : jC l b D ta False y_Pe_countOrder b_Pe_countOrder 1 (some .boolean) (rL 0) [.ref (b + p)] (pS b ta σ p g h t w c r d u o F0 F1 F2) (some (.int 0)) (pS b ta σ p g h t w c r d u o F0 F1 F2) := by
  refine jC_of (own := "WireField$Pen") (by decide +kernel) (Nat.le_of_ble_eq_true rfl) rfl (fun Γ B K => ?_)
  change jW l b D Γ False 0 0 1 (pS b ta σ p g h t w c r d u o F0 F1 F2) [(0, .ref (b + p))] 0 []
  refine j_aload_n B d_Pe_countOrder_0 rfl 0 rfl ?_
  refine gf_Pe_32 B (pS_p H) rfl d_Pe_countOrder_1 ?_
  refine j_sipush (v := 400) B d_Pe_countOrder_4 (by decide) ?_
  refine j_icmp_lt B d_Pe_countOrder_7 rfl (fun h7 => absurd h7 (nI_nlt (a := o) (b := 400) (by omega) ho2)) (fun h7 => ?_)
  refine j_iconst (v := 0) B d_Pe_countOrder_10 (by decide) ?_
  exact j_zret B K (by decide) rfl rfl d_Pe_countOrder_11
set_option maxRecDepth 100000 in
set_option maxHeartbeats 4000000 in
theorem c_Pe_drawDiode_t {l : Launch} {b : Nat} {D : va_G} {ta : Nat → ClassId} {σ : List va_E} {p g h t w : Nat} (H : pW b σ p g h t w) {c r : Int32} {d : Nat} {u : Bool} {o : Nat} {F0 F1 F2 : Nat → Int32} (hd : d < 4) (h1 : inF (cA c d 4 0) (rA r d 4 0) = true) (h2 : inF (cA c d 2 (-1)) (rA r d 2 (-1)) = true) (h3 : inF (cA c d 2 1) (rA r d 2 1) = true) : jC l b D ta False y_Pe_drawDiode b_Pe_drawDiode 1 (some .boolean) (rL 4) [.ref (b + p)] (pS b ta σ p g h t w c r d u o F0 F1 F2) (some (.int 1)) (pS b ta σ p g h t w (cA c d 4 0) (rA r d 4 0) d u o (mkB u (mkB u (mkB u (mkB u (mkB u (mkB u (mkB u F0 (cA c d 1 0) (rA r d 1 0) 1) (cA c d 2 (-1)) (rA r d 2 (-1)) 1) (cA c d 2 1) (rA r d 2 1) 1) (cA c d 3 (-1)) (rA r d 3 (-1)) 1) (cA c d 3 0) (rA r d 3 0) 1) (cA c d 3 1) (rA r d 3 1) 1) (cA c d 4 0) (rA r d 4 0) 1) (mkB u (mkB u (mkB u (mkB u (mkB u (mkB u (mkB u F1 (cA c d 1 0) (rA r d 1 0) 2) (cA c d 2 (-1)) (rA r d 2 (-1)) 2) (cA c d 2 1) (rA r d 2 1) 2) (cA c d 3 (-1)) (rA r d 3 (-1)) 2) (cA c d 3 0) (rA r d 3 0) 2) (cA c d 3 1) (rA r d 3 1) 2) (cA c d 4 0) (rA r d 4 0) 2) (mkB u (mkB u (mkB u (mkB u (mkB u (mkB u (mkB u F2 (cA c d 1 0) (rA r d 1 0) 3) (cA c d 2 (-1)) (rA r d 2 (-1)) 3) (cA c d 2 1) (rA r d 2 1) 3) (cA c d 3 (-1)) (rA r d 3 (-1)) 3) (cA c d 3 0) (rA r d 3 0) 3) (cA c d 3 1) (rA r d 3 1) 3) (cA c d 4 0) (rA r d 4 0) 3)) := by
  refine jC_of (own := "WireField$Pen") (by decide +kernel) (Nat.le_of_ble_eq_true rfl) rfl (fun Γ B K => ?_)
  change jW l b D Γ False 0 0 1 (pS b ta σ p g h t w c r d u o F0 F1 F2) [(0, .ref (b + p))] 0 []
  refine j_aload_n B d_Pe_drawDiode_0 rfl 0 rfl ?_
  refine j_iconst (v := 4) B d_Pe_drawDiode_1 (by decide) ?_
  refine j_iconst (v := 0) B d_Pe_drawDiode_2 (by decide) ?_
  refine k_callV (as := [.int 4, .int 0]) (rest := []) (st1 := [.int (bI (inF (cA c d 4 0) (rA r d 4 0)))]) B (c_Pe_hasCell H hd 4 0) yf_Pe_hasCell w_650 w_652 w_s22 rfl (pS_p H) rfl (by decide) (by decide) rfl rfl (Nat.le_of_ble_eq_true rfl) d_Pe_drawDiode_3 ?_
  refine j_if_eq B d_Pe_drawDiode_6 rfl (fun h6 => absurd (bI_f h6) (by rw [h1]; decide)) (fun h6 => ?_)
  refine j_aload_n B d_Pe_drawDiode_9 rfl 0 rfl ?_
  refine j_iconst (v := 2) B d_Pe_drawDiode_10 (by decide) ?_
  refine j_iconst (v := (-1)) B d_Pe_drawDiode_11 (by decide) ?_
  refine k_callV (as := [.int 2, .int (-1)]) (rest := []) (st1 := [.int (bI (inF (cA c d 2 (-1)) (rA r d 2 (-1))))]) B (c_Pe_hasCell H hd 2 (-1)) yf_Pe_hasCell w_650 w_652 w_s22 rfl (pS_p H) rfl (by decide) (by decide) rfl rfl (Nat.le_of_ble_eq_true rfl) d_Pe_drawDiode_12 ?_
  refine j_if_eq B d_Pe_drawDiode_15 rfl (fun h15 => absurd (bI_f h15) (by rw [h2]; decide)) (fun h15 => ?_)
  refine j_aload_n B d_Pe_drawDiode_18 rfl 0 rfl ?_
  refine j_iconst (v := 2) B d_Pe_drawDiode_19 (by decide) ?_
  refine j_iconst (v := 1) B d_Pe_drawDiode_20 (by decide) ?_
  refine k_callV (as := [.int 2, .int 1]) (rest := []) (st1 := [.int (bI (inF (cA c d 2 1) (rA r d 2 1)))]) B (c_Pe_hasCell H hd 2 1) yf_Pe_hasCell w_650 w_652 w_s22 rfl (pS_p H) rfl (by decide) (by decide) rfl rfl (Nat.le_of_ble_eq_true rfl) d_Pe_drawDiode_21 ?_
  refine j_if_ne B d_Pe_drawDiode_24 rfl (fun h24 => ?_) (fun h24 => absurd (bI_f h24) (by rw [h3]; decide))
  refine j_aload_n B d_Pe_drawDiode_29 rfl 0 rfl ?_
  refine j_iconst (v := 1) B d_Pe_drawDiode_30 (by decide) ?_
  refine j_iconst (v := 0) B d_Pe_drawDiode_31 (by decide) ?_
  refine k_callV (as := [.int 1, .int 0]) (rest := []) (st1 := []) B (c_Pe_mark H hd 1 0) yf_Pe_mark w_636 w_638 w_s19 rfl (pS_p H) rfl (by decide) (by decide) rfl rfl (Nat.le_of_ble_eq_true rfl) d_Pe_drawDiode_32 ?_
  refine j_aload_n B d_Pe_drawDiode_35 rfl 0 rfl ?_
  refine j_iconst (v := 2) B d_Pe_drawDiode_36 (by decide) ?_
  refine j_iconst (v := (-1)) B d_Pe_drawDiode_37 (by decide) ?_
  refine k_callV (as := [.int 2, .int (-1)]) (rest := []) (st1 := []) B (c_Pe_mark H hd 2 (-1)) yf_Pe_mark w_636 w_638 w_s19 rfl (pS_p H) rfl (by decide) (by decide) rfl rfl (Nat.le_of_ble_eq_true rfl) d_Pe_drawDiode_38 ?_
  refine j_aload_n B d_Pe_drawDiode_41 rfl 0 rfl ?_
  refine j_iconst (v := 2) B d_Pe_drawDiode_42 (by decide) ?_
  refine j_iconst (v := 1) B d_Pe_drawDiode_43 (by decide) ?_
  refine k_callV (as := [.int 2, .int 1]) (rest := []) (st1 := []) B (c_Pe_mark H hd 2 1) yf_Pe_mark w_636 w_638 w_s19 rfl (pS_p H) rfl (by decide) (by decide) rfl rfl (Nat.le_of_ble_eq_true rfl) d_Pe_drawDiode_44 ?_
  refine j_aload_n B d_Pe_drawDiode_47 rfl 0 rfl ?_
  refine j_iconst (v := 3) B d_Pe_drawDiode_48 (by decide) ?_
  refine j_iconst (v := (-1)) B d_Pe_drawDiode_49 (by decide) ?_
  refine k_callV (as := [.int 3, .int (-1)]) (rest := []) (st1 := []) B (c_Pe_mark H hd 3 (-1)) yf_Pe_mark w_636 w_638 w_s19 rfl (pS_p H) rfl (by decide) (by decide) rfl rfl (Nat.le_of_ble_eq_true rfl) d_Pe_drawDiode_50 ?_
  refine j_aload_n B d_Pe_drawDiode_53 rfl 0 rfl ?_
  refine j_iconst (v := 3) B d_Pe_drawDiode_54 (by decide) ?_
  refine j_iconst (v := 0) B d_Pe_drawDiode_55 (by decide) ?_
  refine k_callV (as := [.int 3, .int 0]) (rest := []) (st1 := []) B (c_Pe_mark H hd 3 0) yf_Pe_mark w_636 w_638 w_s19 rfl (pS_p H) rfl (by decide) (by decide) rfl rfl (Nat.le_of_ble_eq_true rfl) d_Pe_drawDiode_56 ?_
  refine j_aload_n B d_Pe_drawDiode_59 rfl 0 rfl ?_
  refine j_iconst (v := 3) B d_Pe_drawDiode_60 (by decide) ?_
  refine j_iconst (v := 1) B d_Pe_drawDiode_61 (by decide) ?_
  refine k_callV (as := [.int 3, .int 1]) (rest := []) (st1 := []) B (c_Pe_mark H hd 3 1) yf_Pe_mark w_636 w_638 w_s19 rfl (pS_p H) rfl (by decide) (by decide) rfl rfl (Nat.le_of_ble_eq_true rfl) d_Pe_drawDiode_62 ?_
  refine j_aload_n B d_Pe_drawDiode_65 rfl 0 rfl ?_
  refine j_iconst (v := 4) B d_Pe_drawDiode_66 (by decide) ?_
  refine j_iconst (v := 0) B d_Pe_drawDiode_67 (by decide) ?_
  refine k_callV (as := [.int 4, .int 0]) (rest := []) (st1 := []) B (c_Pe_mark H hd 4 0) yf_Pe_mark w_636 w_638 w_s19 rfl (pS_p H) rfl (by decide) (by decide) rfl rfl (Nat.le_of_ble_eq_true rfl) d_Pe_drawDiode_68 ?_
  refine j_aload_n B d_Pe_drawDiode_71 rfl 0 rfl ?_
  refine j_iconst (v := 4) B d_Pe_drawDiode_72 (by decide) ?_
  refine k_callV (as := [.int 4]) (rest := []) (st1 := [.int 1]) B (c_Pe_move_t H hd 4 h1) yf_Pe_move w_619 w_621 w_s16 rfl (pS_p H) rfl (by decide) (by decide) rfl rfl (Nat.le_of_ble_eq_true rfl) d_Pe_drawDiode_73 ?_
  exact j_zret B K (by decide) rfl rfl d_Pe_drawDiode_76
set_option maxRecDepth 100000 in
set_option maxHeartbeats 4000000 in
theorem c_Pe_drawDiode_f {l : Launch} {b : Nat} {D : va_G} {ta : Nat → ClassId} {σ : List va_E} {p g h t w : Nat} (H : pW b σ p g h t w) {c r : Int32} {d : Nat} {u : Bool} {o : Nat} {F0 F1 F2 : Nat → Int32} (hd : d < 4) (hq : (inF (cA c d 4 0) (rA r d 4 0) && (inF (cA c d 2 (-1)) (rA r d 2 (-1)) && inF (cA c d 2 1) (rA r d 2 1))) = false) : jC l b D ta False y_Pe_drawDiode b_Pe_drawDiode 1 (some .boolean) (rL 4) [.ref (b + p)] (pS b ta σ p g h t w c r d u o F0 F1 F2) (some (.int 0)) (pS b ta σ p g h t w c r d u o F0 F1 F2) := by
  refine jC_of (own := "WireField$Pen") (by decide +kernel) (Nat.le_of_ble_eq_true rfl) rfl (fun Γ B K => ?_)
  change jW l b D Γ False 0 0 1 (pS b ta σ p g h t w c r d u o F0 F1 F2) [(0, .ref (b + p))] 0 []
  refine j_aload_n B d_Pe_drawDiode_0 rfl 0 rfl ?_
  refine j_iconst (v := 4) B d_Pe_drawDiode_1 (by decide) ?_
  refine j_iconst (v := 0) B d_Pe_drawDiode_2 (by decide) ?_
  refine k_callV (as := [.int 4, .int 0]) (rest := []) (st1 := [.int (bI (inF (cA c d 4 0) (rA r d 4 0)))]) B (c_Pe_hasCell H hd 4 0) yf_Pe_hasCell w_650 w_652 w_s22 rfl (pS_p H) rfl (by decide) (by decide) rfl rfl (Nat.le_of_ble_eq_true rfl) d_Pe_drawDiode_3 ?_
  refine j_if_eq B d_Pe_drawDiode_6 rfl (fun h6 => ?_) (fun h6 => ?_)
  · -- 6 jump
    replace h6 := bI_f h6
    refine j_iconst (v := 0) B d_Pe_drawDiode_27 (by decide) ?_
    exact j_zret B K (by decide) rfl rfl d_Pe_drawDiode_28
  · -- 6 on
    replace h6 := bI_t h6
    refine j_aload_n B d_Pe_drawDiode_9 rfl 0 rfl ?_
    refine j_iconst (v := 2) B d_Pe_drawDiode_10 (by decide) ?_
    refine j_iconst (v := (-1)) B d_Pe_drawDiode_11 (by decide) ?_
    refine k_callV (as := [.int 2, .int (-1)]) (rest := []) (st1 := [.int (bI (inF (cA c d 2 (-1)) (rA r d 2 (-1))))]) B (c_Pe_hasCell H hd 2 (-1)) yf_Pe_hasCell w_650 w_652 w_s22 rfl (pS_p H) rfl (by decide) (by decide) rfl rfl (Nat.le_of_ble_eq_true rfl) d_Pe_drawDiode_12 ?_
    refine j_if_eq B d_Pe_drawDiode_15 rfl (fun h15 => ?_) (fun h15 => ?_)
    · -- 15 jump
      replace h15 := bI_f h15
      refine j_iconst (v := 0) B d_Pe_drawDiode_27 (by decide) ?_
      exact j_zret B K (by decide) rfl rfl d_Pe_drawDiode_28
    · -- 15 on
      replace h15 := bI_t h15
      refine j_aload_n B d_Pe_drawDiode_18 rfl 0 rfl ?_
      refine j_iconst (v := 2) B d_Pe_drawDiode_19 (by decide) ?_
      refine j_iconst (v := 1) B d_Pe_drawDiode_20 (by decide) ?_
      refine k_callV (as := [.int 2, .int 1]) (rest := []) (st1 := [.int (bI (inF (cA c d 2 1) (rA r d 2 1)))]) B (c_Pe_hasCell H hd 2 1) yf_Pe_hasCell w_650 w_652 w_s22 rfl (pS_p H) rfl (by decide) (by decide) rfl rfl (Nat.le_of_ble_eq_true rfl) d_Pe_drawDiode_21 ?_
      refine j_if_ne B d_Pe_drawDiode_24 rfl (fun h24 => ?_) (fun h24 => ?_)
      · -- 24 jump
        replace h24 := bI_t h24
        exact absurd hq (by rw [h6, h15, h24]; decide)
      · -- 24 on
        replace h24 := bI_f h24
        refine j_iconst (v := 0) B d_Pe_drawDiode_27 (by decide) ?_
        exact j_zret B K (by decide) rfl rfl d_Pe_drawDiode_28
end
