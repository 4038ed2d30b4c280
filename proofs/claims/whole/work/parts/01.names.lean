-- ===== PART A: goes FIRST, ahead of the names: the tables' words, and 'selects' of the private methods out of them =====
/-- a private method of a class that the tables say can be made, by its rows of tables_1 -/
def lw_okq (q : MethodName × Nat) : Prop := (q.1.cls ≠ "java/lang/invoke/MethodHandle" ∧ q.1.cls ≠ "java/lang/invoke/VarHandle") ∧ Cond.instantiable q.1.cls q.2 ∈ tables_1 ∧ Cond.privateMethod q.1 ∈ tables_1 ∧ Cond.instanceMethod q.1 ∈ tables_1
theorem lw_p0 : lw_okq (⟨"AbbeyNotes", "tryMonths", "(I)I"⟩, 7) := ⟨⟨by decide +kernel, by decide +kernel⟩, List.mem_of_getElem? (i := 14) (by decide +kernel), List.mem_of_getElem? (i := 279) (by decide +kernel), List.mem_of_getElem? (i := 280) (by decide +kernel)⟩
theorem lw_p1 : lw_okq (⟨"AbbeyNotes$Trial", "read", "(LAbbeyNotes$Pad;I)V"⟩, 9) := ⟨⟨by decide +kernel, by decide +kernel⟩, List.mem_of_getElem? (i := 107) (by decide +kernel), List.mem_of_getElem? (i := 294) (by decide +kernel), List.mem_of_getElem? (i := 295) (by decide +kernel)⟩
theorem lw_p2 : lw_okq (⟨"AbbeyNotes$Realm", "printed", "(I)I"⟩, 9) := ⟨⟨by decide +kernel, by decide +kernel⟩, List.mem_of_getElem? (i := 22) (by decide +kernel), List.mem_of_getElem? (i := 312) (by decide +kernel), List.mem_of_getElem? (i := 313) (by decide +kernel)⟩
theorem lw_p3 : lw_okq (⟨"AbbeyNotes$Realm", "paidByState", "(II)I"⟩, 9) := ⟨⟨by decide +kernel, by decide +kernel⟩, List.mem_of_getElem? (i := 22) (by decide +kernel), List.mem_of_getElem? (i := 317) (by decide +kernel), List.mem_of_getElem? (i := 318) (by decide +kernel)⟩
theorem lw_p4 : lw_okq (⟨"AbbeyNotes$Realm", "bought", "(II)I"⟩, 9) := ⟨⟨by decide +kernel, by decide +kernel⟩, List.mem_of_getElem? (i := 22) (by decide +kernel), List.mem_of_getElem? (i := 321) (by decide +kernel), List.mem_of_getElem? (i := 322) (by decide +kernel)⟩
theorem lw_p5 : lw_okq (⟨"AbbeyNotes$Realm", "exchanged", "(II)I"⟩, 9) := ⟨⟨by decide +kernel, by decide +kernel⟩, List.mem_of_getElem? (i := 22) (by decide +kernel), List.mem_of_getElem? (i := 325) (by decide +kernel), List.mem_of_getElem? (i := 326) (by decide +kernel)⟩
theorem lw_p6 : lw_okq (⟨"AbbeyNotes$Realm", "settled", "(II)I"⟩, 9) := ⟨⟨by decide +kernel, by decide +kernel⟩, List.mem_of_getElem? (i := 22) (by decide +kernel), List.mem_of_getElem? (i := 347) (by decide +kernel), List.mem_of_getElem? (i := 348) (by decide +kernel)⟩
theorem lw_p7 : lw_okq (⟨"AbbeyNotes$Realm", "forgedFor", "(II)I"⟩, 9) := ⟨⟨by decide +kernel, by decide +kernel⟩, List.mem_of_getElem? (i := 22) (by decide +kernel), List.mem_of_getElem? (i := 352) (by decide +kernel), List.mem_of_getElem? (i := 353) (by decide +kernel)⟩
theorem lw_p8 : lw_okq (⟨"AbbeyNotes$Realm", "monthEnded", "()I"⟩, 9) := ⟨⟨by decide +kernel, by decide +kernel⟩, List.mem_of_getElem? (i := 22) (by decide +kernel), List.mem_of_getElem? (i := 356) (by decide +kernel), List.mem_of_getElem? (i := 357) (by decide +kernel)⟩
theorem lw_p9 : lw_okq (⟨"AbbeyNotes$Trial", "endMonth", "(I)V"⟩, 9) := ⟨⟨by decide +kernel, by decide +kernel⟩, List.mem_of_getElem? (i := 107) (by decide +kernel), List.mem_of_getElem? (i := 360) (by decide +kernel), List.mem_of_getElem? (i := 361) (by decide +kernel)⟩
theorem lw_p10 : lw_okq (⟨"AbbeyNotes$Settling", "dueTo", "(I)I"⟩, 2) := ⟨⟨by decide +kernel, by decide +kernel⟩, List.mem_of_getElem? (i := 148) (by decide +kernel), List.mem_of_getElem? (i := 413) (by decide +kernel), List.mem_of_getElem? (i := 414) (by decide +kernel)⟩
theorem lw_p11 : lw_okq (⟨"AbbeyNotes", "toldOfAll", "(I)I"⟩, 7) := ⟨⟨by decide +kernel, by decide +kernel⟩, List.mem_of_getElem? (i := 14) (by decide +kernel), List.mem_of_getElem? (i := 537) (by decide +kernel), List.mem_of_getElem? (i := 538) (by decide +kernel)⟩
theorem lw_p12 : lw_okq (⟨"AbbeyNotes", "toldOfOne", "(II)I"⟩, 7) := ⟨⟨by decide +kernel, by decide +kernel⟩, List.mem_of_getElem? (i := 14) (by decide +kernel), List.mem_of_getElem? (i := 541) (by decide +kernel), List.mem_of_getElem? (i := 542) (by decide +kernel)⟩
theorem lw_p13 : lw_okq (⟨"AbbeyNotes", "toldOfLot", "(II)I"⟩, 7) := ⟨⟨by decide +kernel, by decide +kernel⟩, List.mem_of_getElem? (i := 14) (by decide +kernel), List.mem_of_getElem? (i := 545) (by decide +kernel), List.mem_of_getElem? (i := 546) (by decide +kernel)⟩
theorem lw_p14 : lw_okq (⟨"AbbeyNotes", "toldOfDebt", "(II)I"⟩, 7) := ⟨⟨by decide +kernel, by decide +kernel⟩, List.mem_of_getElem? (i := 14) (by decide +kernel), List.mem_of_getElem? (i := 549) (by decide +kernel), List.mem_of_getElem? (i := 550) (by decide +kernel)⟩
theorem lw_p15 : lw_okq (⟨"AbbeyNotesModel", "readOn", "(II)I"⟩, 34) := ⟨⟨by decide +kernel, by decide +kernel⟩, List.mem_of_getElem? (i := 553) (by decide +kernel), List.mem_of_getElem? (i := 705) (by decide +kernel), List.mem_of_getElem? (i := 706) (by decide +kernel)⟩
def lw_privs_1 : List (MethodName × Nat) := [(⟨"AbbeyNotes", "tryMonths", "(I)I"⟩, 7), (⟨"AbbeyNotes$Trial", "read", "(LAbbeyNotes$Pad;I)V"⟩, 9), (⟨"AbbeyNotes$Realm", "printed", "(I)I"⟩, 9), (⟨"AbbeyNotes$Realm", "paidByState", "(II)I"⟩, 9), (⟨"AbbeyNotes$Realm", "bought", "(II)I"⟩, 9), (⟨"AbbeyNotes$Realm", "exchanged", "(II)I"⟩, 9), (⟨"AbbeyNotes$Realm", "settled", "(II)I"⟩, 9), (⟨"AbbeyNotes$Realm", "forgedFor", "(II)I"⟩, 9), (⟨"AbbeyNotes$Realm", "monthEnded", "()I"⟩, 9), (⟨"AbbeyNotes$Trial", "endMonth", "(I)V"⟩, 9), (⟨"AbbeyNotes$Settling", "dueTo", "(I)I"⟩, 2), (⟨"AbbeyNotes", "toldOfAll", "(I)I"⟩, 7), (⟨"AbbeyNotes", "toldOfOne", "(II)I"⟩, 7), (⟨"AbbeyNotes", "toldOfLot", "(II)I"⟩, 7), (⟨"AbbeyNotes", "toldOfDebt", "(II)I"⟩, 7), (⟨"AbbeyNotesModel", "readOn", "(II)I"⟩, 34)]
theorem lw_r1 : ∀ q ∈ lw_privs_1, lw_okq q := List.forall_mem_cons.mpr ⟨lw_p0, List.forall_mem_cons.mpr ⟨lw_p1, List.forall_mem_cons.mpr ⟨lw_p2, List.forall_mem_cons.mpr ⟨lw_p3, List.forall_mem_cons.mpr ⟨lw_p4, List.forall_mem_cons.mpr ⟨lw_p5, List.forall_mem_cons.mpr ⟨lw_p6, List.forall_mem_cons.mpr ⟨lw_p7, List.forall_mem_cons.mpr ⟨lw_p8, List.forall_mem_cons.mpr ⟨lw_p9, List.forall_mem_cons.mpr ⟨lw_p10, List.forall_mem_cons.mpr ⟨lw_p11, List.forall_mem_cons.mpr ⟨lw_p12, List.forall_mem_cons.mpr ⟨lw_p13, List.forall_mem_cons.mpr ⟨lw_p14, List.forall_mem_cons.mpr ⟨lw_p15, fun _ h => absurd h List.not_mem_nil⟩⟩⟩⟩⟩⟩⟩⟩⟩⟩⟩⟩⟩⟩⟩⟩
theorem lw_p16 : lw_okq (⟨"AbbeyNotesModel", "begin", "(I)I"⟩, 34) := ⟨⟨by decide +kernel, by decide +kernel⟩, List.mem_of_getElem? (i := 553) (by decide +kernel), List.mem_of_getElem? (i := 709) (by decide +kernel), List.mem_of_getElem? (i := 710) (by decide +kernel)⟩
theorem lw_p17 : lw_okq (⟨"AbbeyNotesModel", "close", "(II)I"⟩, 34) := ⟨⟨by decide +kernel, by decide +kernel⟩, List.mem_of_getElem? (i := 553) (by decide +kernel), List.mem_of_getElem? (i := 718) (by decide +kernel), List.mem_of_getElem? (i := 719) (by decide +kernel)⟩
theorem lw_p18 : lw_okq (⟨"AbbeyNotesModel", "number", "(III)I"⟩, 34) := ⟨⟨by decide +kernel, by decide +kernel⟩, List.mem_of_getElem? (i := 553) (by decide +kernel), List.mem_of_getElem? (i := 725) (by decide +kernel), List.mem_of_getElem? (i := 726) (by decide +kernel)⟩
theorem lw_p19 : lw_okq (⟨"AbbeyNotesModel", "forWhom", "(I)I"⟩, 34) := ⟨⟨by decide +kernel, by decide +kernel⟩, List.mem_of_getElem? (i := 553) (by decide +kernel), List.mem_of_getElem? (i := 731) (by decide +kernel), List.mem_of_getElem? (i := 732) (by decide +kernel)⟩
theorem lw_p20 : lw_okq (⟨"AbbeyNotesModel", "refusal", "()I"⟩, 34) := ⟨⟨by decide +kernel, by decide +kernel⟩, List.mem_of_getElem? (i := 553) (by decide +kernel), List.mem_of_getElem? (i := 742) (by decide +kernel), List.mem_of_getElem? (i := 743) (by decide +kernel)⟩
theorem lw_p21 : lw_okq (⟨"AbbeyNotesModel", "keepNow", "()V"⟩, 34) := ⟨⟨by decide +kernel, by decide +kernel⟩, List.mem_of_getElem? (i := 553) (by decide +kernel), List.mem_of_getElem? (i := 746) (by decide +kernel), List.mem_of_getElem? (i := 747) (by decide +kernel)⟩
theorem lw_p22 : lw_okq (⟨"AbbeyNotesModel", "goMonths", "()V"⟩, 34) := ⟨⟨by decide +kernel, by decide +kernel⟩, List.mem_of_getElem? (i := 553) (by decide +kernel), List.mem_of_getElem? (i := 751) (by decide +kernel), List.mem_of_getElem? (i := 752) (by decide +kernel)⟩
theorem lw_p23 : lw_okq (⟨"AbbeyNotesModel", "whyNot", "(III)I"⟩, 34) := ⟨⟨by decide +kernel, by decide +kernel⟩, List.mem_of_getElem? (i := 553) (by decide +kernel), List.mem_of_getElem? (i := 755) (by decide +kernel), List.mem_of_getElem? (i := 756) (by decide +kernel)⟩
theorem lw_p24 : lw_okq (⟨"AbbeyNotesModel", "whyNotChange", "(II)I"⟩, 34) := ⟨⟨by decide +kernel, by decide +kernel⟩, List.mem_of_getElem? (i := 553) (by decide +kernel), List.mem_of_getElem? (i := 760) (by decide +kernel), List.mem_of_getElem? (i := 761) (by decide +kernel)⟩
theorem lw_p25 : lw_okq (⟨"AbbeyNotesModel", "worth", "(I)I"⟩, 34) := ⟨⟨by decide +kernel, by decide +kernel⟩, List.mem_of_getElem? (i := 553) (by decide +kernel), List.mem_of_getElem? (i := 764) (by decide +kernel), List.mem_of_getElem? (i := 765) (by decide +kernel)⟩
theorem lw_p26 : lw_okq (⟨"AbbeyNotesModel", "rate", "()I"⟩, 34) := ⟨⟨by decide +kernel, by decide +kernel⟩, List.mem_of_getElem? (i := 553) (by decide +kernel), List.mem_of_getElem? (i := 768) (by decide +kernel), List.mem_of_getElem? (i := 769) (by decide +kernel)⟩
theorem lw_p27 : lw_okq (⟨"AbbeyNotesModel", "land", "()I"⟩, 34) := ⟨⟨by decide +kernel, by decide +kernel⟩, List.mem_of_getElem? (i := 553) (by decide +kernel), List.mem_of_getElem? (i := 772) (by decide +kernel), List.mem_of_getElem? (i := 773) (by decide +kernel)⟩
theorem lw_p28 : lw_okq (⟨"AbbeyNotesModel", "notes", "()I"⟩, 34) := ⟨⟨by decide +kernel, by decide +kernel⟩, List.mem_of_getElem? (i := 553) (by decide +kernel), List.mem_of_getElem? (i := 776) (by decide +kernel), List.mem_of_getElem? (i := 777) (by decide +kernel)⟩
theorem lw_p29 : lw_okq (⟨"AbbeyNotesModel", "whyNotPay", "(II)I"⟩, 34) := ⟨⟨by decide +kernel, by decide +kernel⟩, List.mem_of_getElem? (i := 553) (by decide +kernel), List.mem_of_getElem? (i := 784) (by decide +kernel), List.mem_of_getElem? (i := 785) (by decide +kernel)⟩
theorem lw_p30 : lw_okq (⟨"AbbeyNotesModel", "payment", "(II)I"⟩, 34) := ⟨⟨by decide +kernel, by decide +kernel⟩, List.mem_of_getElem? (i := 553) (by decide +kernel), List.mem_of_getElem? (i := 788) (by decide +kernel), List.mem_of_getElem? (i := 789) (by decide +kernel)⟩
theorem lw_p31 : lw_okq (⟨"AbbeyNotesModel", "happen", "(III)V"⟩, 34) := ⟨⟨by decide +kernel, by decide +kernel⟩, List.mem_of_getElem? (i := 553) (by decide +kernel), List.mem_of_getElem? (i := 792) (by decide +kernel), List.mem_of_getElem? (i := 793) (by decide +kernel)⟩
def lw_privs_2 : List (MethodName × Nat) := [(⟨"AbbeyNotesModel", "begin", "(I)I"⟩, 34), (⟨"AbbeyNotesModel", "close", "(II)I"⟩, 34), (⟨"AbbeyNotesModel", "number", "(III)I"⟩, 34), (⟨"AbbeyNotesModel", "forWhom", "(I)I"⟩, 34), (⟨"AbbeyNotesModel", "refusal", "()I"⟩, 34), (⟨"AbbeyNotesModel", "keepNow", "()V"⟩, 34), (⟨"AbbeyNotesModel", "goMonths", "()V"⟩, 34), (⟨"AbbeyNotesModel", "whyNot", "(III)I"⟩, 34), (⟨"AbbeyNotesModel", "whyNotChange", "(II)I"⟩, 34), (⟨"AbbeyNotesModel", "worth", "(I)I"⟩, 34), (⟨"AbbeyNotesModel", "rate", "()I"⟩, 34), (⟨"AbbeyNotesModel", "land", "()I"⟩, 34), (⟨"AbbeyNotesModel", "notes", "()I"⟩, 34), (⟨"AbbeyNotesModel", "whyNotPay", "(II)I"⟩, 34), (⟨"AbbeyNotesModel", "payment", "(II)I"⟩, 34), (⟨"AbbeyNotesModel", "happen", "(III)V"⟩, 34)]
theorem lw_r2 : ∀ q ∈ lw_privs_2, lw_okq q := List.forall_mem_cons.mpr ⟨lw_p16, List.forall_mem_cons.mpr ⟨lw_p17, List.forall_mem_cons.mpr ⟨lw_p18, List.forall_mem_cons.mpr ⟨lw_p19, List.forall_mem_cons.mpr ⟨lw_p20, List.forall_mem_cons.mpr ⟨lw_p21, List.forall_mem_cons.mpr ⟨lw_p22, List.forall_mem_cons.mpr ⟨lw_p23, List.forall_mem_cons.mpr ⟨lw_p24, List.forall_mem_cons.mpr ⟨lw_p25, List.forall_mem_cons.mpr ⟨lw_p26, List.forall_mem_cons.mpr ⟨lw_p27, List.forall_mem_cons.mpr ⟨lw_p28, List.forall_mem_cons.mpr ⟨lw_p29, List.forall_mem_cons.mpr ⟨lw_p30, List.forall_mem_cons.mpr ⟨lw_p31, fun _ h => absurd h List.not_mem_nil⟩⟩⟩⟩⟩⟩⟩⟩⟩⟩⟩⟩⟩⟩⟩⟩
theorem lw_p32 : lw_okq (⟨"AbbeyNotesModel", "buy", "(II)V"⟩, 34) := ⟨⟨by decide +kernel, by decide +kernel⟩, List.mem_of_getElem? (i := 553) (by decide +kernel), List.mem_of_getElem? (i := 796) (by decide +kernel), List.mem_of_getElem? (i := 797) (by decide +kernel)⟩
theorem lw_p33 : lw_okq (⟨"AbbeyNotesModel", "swap", "(II)V"⟩, 34) := ⟨⟨by decide +kernel, by decide +kernel⟩, List.mem_of_getElem? (i := 553) (by decide +kernel), List.mem_of_getElem? (i := 800) (by decide +kernel), List.mem_of_getElem? (i := 801) (by decide +kernel)⟩
theorem lw_p34 : lw_okq (⟨"AbbeyNotesModel", "pay", "(II)V"⟩, 34) := ⟨⟨by decide +kernel, by decide +kernel⟩, List.mem_of_getElem? (i := 553) (by decide +kernel), List.mem_of_getElem? (i := 804) (by decide +kernel), List.mem_of_getElem? (i := 805) (by decide +kernel)⟩
theorem lw_p35 : lw_okq (⟨"AbbeyNotesModel", "back", "(I)I"⟩, 34) := ⟨⟨by decide +kernel, by decide +kernel⟩, List.mem_of_getElem? (i := 553) (by decide +kernel), List.mem_of_getElem? (i := 808) (by decide +kernel), List.mem_of_getElem? (i := 809) (by decide +kernel)⟩
theorem lw_p36 : lw_okq (⟨"AbbeyNotesModel", "ofOne", "(II)I"⟩, 34) := ⟨⟨by decide +kernel, by decide +kernel⟩, List.mem_of_getElem? (i := 553) (by decide +kernel), List.mem_of_getElem? (i := 817) (by decide +kernel), List.mem_of_getElem? (i := 818) (by decide +kernel)⟩
theorem lw_p37 : lw_okq (⟨"AbbeyNotesModel", "lotsOf", "(I)I"⟩, 34) := ⟨⟨by decide +kernel, by decide +kernel⟩, List.mem_of_getElem? (i := 553) (by decide +kernel), List.mem_of_getElem? (i := 821) (by decide +kernel), List.mem_of_getElem? (i := 822) (by decide +kernel)⟩
theorem lw_p38 : lw_okq (⟨"AbbeyNotesModel", "owesInAll", "(I)I"⟩, 34) := ⟨⟨by decide +kernel, by decide +kernel⟩, List.mem_of_getElem? (i := 553) (by decide +kernel), List.mem_of_getElem? (i := 825) (by decide +kernel), List.mem_of_getElem? (i := 826) (by decide +kernel)⟩
theorem lw_p39 : lw_okq (⟨"AbbeyNotesModel", "ofAll", "(I)I"⟩, 34) := ⟨⟨by decide +kernel, by decide +kernel⟩, List.mem_of_getElem? (i := 553) (by decide +kernel), List.mem_of_getElem? (i := 833) (by decide +kernel), List.mem_of_getElem? (i := 834) (by decide +kernel)⟩
theorem lw_p40 : lw_okq (⟨"AbbeyNotesModel", "mostEven", "(I)I"⟩, 34) := ⟨⟨by decide +kernel, by decide +kernel⟩, List.mem_of_getElem? (i := 553) (by decide +kernel), List.mem_of_getElem? (i := 849) (by decide +kernel), List.mem_of_getElem? (i := 850) (by decide +kernel)⟩
theorem lw_p41 : lw_okq (⟨"AbbeyNotesModel", "netOf", "(I)I"⟩, 34) := ⟨⟨by decide +kernel, by decide +kernel⟩, List.mem_of_getElem? (i := 553) (by decide +kernel), List.mem_of_getElem? (i := 853) (by decide +kernel), List.mem_of_getElem? (i := 854) (by decide +kernel)⟩
theorem lw_p42 : lw_okq (⟨"AbbeyNotesModel", "pricesOf", "(I)I"⟩, 34) := ⟨⟨by decide +kernel, by decide +kernel⟩, List.mem_of_getElem? (i := 553) (by decide +kernel), List.mem_of_getElem? (i := 865) (by decide +kernel), List.mem_of_getElem? (i := 866) (by decide +kernel)⟩
theorem lw_p43 : lw_okq (⟨"AbbeyNotesModel", "chooseOf", "(II)J"⟩, 34) := ⟨⟨by decide +kernel, by decide +kernel⟩, List.mem_of_getElem? (i := 553) (by decide +kernel), List.mem_of_getElem? (i := 895) (by decide +kernel), List.mem_of_getElem? (i := 896) (by decide +kernel)⟩
theorem lw_p44 : lw_okq (⟨"AbbeyNotesModel", "fits", "(II)Z"⟩, 34) := ⟨⟨by decide +kernel, by decide +kernel⟩, List.mem_of_getElem? (i := 553) (by decide +kernel), List.mem_of_getElem? (i := 912) (by decide +kernel), List.mem_of_getElem? (i := 913) (by decide +kernel)⟩
theorem lw_p45 : lw_okq (⟨"AbbeyNotesModel", "mostLeft", "(II)I"⟩, 34) := ⟨⟨by decide +kernel, by decide +kernel⟩, List.mem_of_getElem? (i := 553) (by decide +kernel), List.mem_of_getElem? (i := 923) (by decide +kernel), List.mem_of_getElem? (i := 924) (by decide +kernel)⟩
theorem lw_p46 : lw_okq (⟨"AbbeyNotesModel", "passAll", "()V"⟩, 34) := ⟨⟨by decide +kernel, by decide +kernel⟩, List.mem_of_getElem? (i := 553) (by decide +kernel), List.mem_of_getElem? (i := 944) (by decide +kernel), List.mem_of_getElem? (i := 945) (by decide +kernel)⟩
theorem lw_p47 : lw_okq (⟨"AbbeyNotesModel", "pass", "(I)I"⟩, 34) := ⟨⟨by decide +kernel, by decide +kernel⟩, List.mem_of_getElem? (i := 553) (by decide +kernel), List.mem_of_getElem? (i := 948) (by decide +kernel), List.mem_of_getElem? (i := 949) (by decide +kernel)⟩
def lw_privs_3 : List (MethodName × Nat) := [(⟨"AbbeyNotesModel", "buy", "(II)V"⟩, 34), (⟨"AbbeyNotesModel", "swap", "(II)V"⟩, 34), (⟨"AbbeyNotesModel", "pay", "(II)V"⟩, 34), (⟨"AbbeyNotesModel", "back", "(I)I"⟩, 34), (⟨"AbbeyNotesModel", "ofOne", "(II)I"⟩, 34), (⟨"AbbeyNotesModel", "lotsOf", "(I)I"⟩, 34), (⟨"AbbeyNotesModel", "owesInAll", "(I)I"⟩, 34), (⟨"AbbeyNotesModel", "ofAll", "(I)I"⟩, 34), (⟨"AbbeyNotesModel", "mostEven", "(I)I"⟩, 34), (⟨"AbbeyNotesModel", "netOf", "(I)I"⟩, 34), (⟨"AbbeyNotesModel", "pricesOf", "(I)I"⟩, 34), (⟨"AbbeyNotesModel", "chooseOf", "(II)J"⟩, 34), (⟨"AbbeyNotesModel", "fits", "(II)Z"⟩, 34), (⟨"AbbeyNotesModel", "mostLeft", "(II)I"⟩, 34), (⟨"AbbeyNotesModel", "passAll", "()V"⟩, 34), (⟨"AbbeyNotesModel", "pass", "(I)I"⟩, 34)]
theorem lw_r3 : ∀ q ∈ lw_privs_3, lw_okq q := List.forall_mem_cons.mpr ⟨lw_p32, List.forall_mem_cons.mpr ⟨lw_p33, List.forall_mem_cons.mpr ⟨lw_p34, List.forall_mem_cons.mpr ⟨lw_p35, List.forall_mem_cons.mpr ⟨lw_p36, List.forall_mem_cons.mpr ⟨lw_p37, List.forall_mem_cons.mpr ⟨lw_p38, List.forall_mem_cons.mpr ⟨lw_p39, List.forall_mem_cons.mpr ⟨lw_p40, List.forall_mem_cons.mpr ⟨lw_p41, List.forall_mem_cons.mpr ⟨lw_p42, List.forall_mem_cons.mpr ⟨lw_p43, List.forall_mem_cons.mpr ⟨lw_p44, List.forall_mem_cons.mpr ⟨lw_p45, List.forall_mem_cons.mpr ⟨lw_p46, List.forall_mem_cons.mpr ⟨lw_p47, fun _ h => absurd h List.not_mem_nil⟩⟩⟩⟩⟩⟩⟩⟩⟩⟩⟩⟩⟩⟩⟩⟩
theorem lw_p48 : lw_okq (⟨"AbbeyNotesModel", "passRow", "([II)V"⟩, 34) := ⟨⟨by decide +kernel, by decide +kernel⟩, List.mem_of_getElem? (i := 553) (by decide +kernel), List.mem_of_getElem? (i := 952) (by decide +kernel), List.mem_of_getElem? (i := 953) (by decide +kernel)⟩
theorem lw_p49 : lw_okq (⟨"AbbeyNotesModel", "toldOfOne", "(II)I"⟩, 34) := ⟨⟨by decide +kernel, by decide +kernel⟩, List.mem_of_getElem? (i := 553) (by decide +kernel), List.mem_of_getElem? (i := 968) (by decide +kernel), List.mem_of_getElem? (i := 969) (by decide +kernel)⟩
theorem lw_p50 : lw_okq (⟨"AbbeyNotesModel", "toldOfAll", "(I)I"⟩, 34) := ⟨⟨by decide +kernel, by decide +kernel⟩, List.mem_of_getElem? (i := 553) (by decide +kernel), List.mem_of_getElem? (i := 972) (by decide +kernel), List.mem_of_getElem? (i := 973) (by decide +kernel)⟩
def lw_privs_4 : List (MethodName × Nat) := [(⟨"AbbeyNotesModel", "passRow", "([II)V"⟩, 34), (⟨"AbbeyNotesModel", "toldOfOne", "(II)I"⟩, 34), (⟨"AbbeyNotesModel", "toldOfAll", "(I)I"⟩, 34)]
theorem lw_r4 : ∀ q ∈ lw_privs_4, lw_okq q := List.forall_mem_cons.mpr ⟨lw_p48, List.forall_mem_cons.mpr ⟨lw_p49, List.forall_mem_cons.mpr ⟨lw_p50, fun _ h => absurd h List.not_mem_nil⟩⟩⟩
def lw_privs : List (MethodName × Nat) := lw_privs_1 ++ (lw_privs_2 ++ (lw_privs_3 ++ (lw_privs_4)))
def lw_tbl : List Cond := k2_sels lw_privs ++ tables_1
theorem lw_privs_ok : ∀ q ∈ lw_privs, lw_okq q := by
  show ∀ q ∈ lw_privs_1 ++ (lw_privs_2 ++ (lw_privs_3 ++ (lw_privs_4))), lw_okq q
  exact List.forall_mem_append.mpr ⟨lw_r1, List.forall_mem_append.mpr ⟨lw_r2, List.forall_mem_append.mpr ⟨lw_r3, lw_r4⟩⟩⟩
-- ===== end of PART A; then your names; then what follows =====
/-! ===== BEGIN words of one list among another's, by their places ===== -/
theorem goodIn_r {big : List Cond} (ws : List Cond) (ps : List Nat) (hp : ws = ps.filterMap (fun i => big[i]?)) (h : ws.all goodWord = true) : GoodIn big ws := by
  intro w hw
  have h1 := List.all_eq_true.mp h w hw
  rw [hp] at hw
  obtain ⟨i, -, hi⟩ := List.mem_filterMap.mp hw
  have hm : w ∈ big := by first | exact List.mem_of_getElem? hi | exact List.getElem?_mem hi
  exact ⟨hm, good_of_word h1⟩
theorem goodIn_app {big a b : List Cond} (ha : GoodIn big a) (hb : GoodIn big b) : GoodIn big (a ++ b) := fun w h => (List.mem_append.mp h).elim (ha w) (hb w)
theorem goodIn_ca {big a b : List Cond} {c : Cond} (ha : GoodIn big (c :: a)) (hb : GoodIn big b) : GoodIn big (c :: (a ++ b)) := fun w h => (List.mem_cons.mp h).elim (fun e => ha w (List.mem_cons.mpr (Or.inl e))) (fun h => (List.mem_append.mp h).elim (fun h => ha w (List.mem_cons.mpr (Or.inr h))) (hb w))
theorem goodIn_sub {big ws : List Cond} (hm : ∀ w ∈ ws, w ∈ big) (h : ws.all goodWord = true) : GoodIn big ws := fun w hw => ⟨hm w hw, good_of_word (List.all_eq_true.mp h w hw)⟩
/-! ===== END ===== -/

/-! ===== BEGIN new T[n][m]: the outer array a place, the inner ones among the pooled ===== -/
/-- f, but v at every address of l -/
def vr_up {α : Type} (f : Nat → α) (l : List Nat) (v : α) : Nat → α := fun a => if a ∈ l then v else f a
theorem vr_up_in {α : Type} {f : Nat → α} {l : List Nat} {v : α} {a : Nat} (h : a ∈ l) : vr_up f l v a = v := if_pos h
theorem vr_up_ne {α : Type} {f : Nat → α} {l : List Nat} {v : α} {a : Nat} (h : a ∉ l) : vr_up f l v a = f a := if_neg h
theorem vr_rows {L l : List Nat} {f : Nat → va_E} {e : va_E} (h : ∀ a, a ∈ l → a ∉ L) : va_pl L f ++ l.map (fun a => (a, e)) = va_pl (L ++ l) (vr_up f l e) := by
  unfold va_pl
  rw [List.map_append]
  congr 1
  · apply List.map_congr_left
    intro a ha
    rw [vr_up_ne (fun q => h a q ha)]
  · apply List.map_congr_left
    intro a ha
    rw [vr_up_in ha]
theorem vr_lay {X rows : va_W} {x : Nat × va_E} {pl : va_W} {D : va_G} {cl : List vw_C} {H : Heap} (hP : va_P D cl (((X ++ pl) ++ [x]) ++ rows) H) : va_P D cl ((X ++ [x]) ++ (pl ++ rows)) H := by
  rw [List.append_assoc (X ++ pl)] at hP
  have h := va_P.swap hP
  rw [← List.append_assoc X] at h
  have h2 := va_P.swap h
  rw [List.append_assoc (X ++ [x])] at h2
  exact h2
theorem vr_layD {X rows : va_W} {x : Nat × va_E} {pl : va_W} {A : Nat → Prop} (hD : va_D A (((X ++ pl) ++ [x]) ++ rows)) : va_D A ((X ++ [x]) ++ (pl ++ rows)) := by
  rw [List.append_assoc (X ++ pl)] at hD
  have h := va_D.swap hD
  rw [← List.append_assoc X] at h
  have h2 := va_D.swap h
  rw [List.append_assoc (X ++ [x])] at h2
  exact h2
/-- (the printed names use this without defining it) an array class over arrays of ty -/
def va_AOA (ty : FieldType) (U : State) : Prop := (Cond.arrayOver (.array ty)).before #[] U = true
theorem va_AOA.use {ty : FieldType} {A : Array Value} {U : State} (h : va_AOA ty U) : (Cond.arrayOver (.array ty)).before A U = true := h
section VGM
variable {p : Program} {l : Launch} {e : Env} {R : Room} {s : State} {m : MethodId} {args : Array Value} {below : List Frame} {meth : Method} {c : Code} {H : Heap} {locs : List Loc} {cells slots : Nat} {Q : State → Prop}
variable {cc : ByteArray} {pc : Nat} {ls : Array Slot} {rest : List Value} {D : va_G} {cl : List vw_C} {A : Nat → Prop} {a : Nat} {tys : List (ClassId × FieldType)} {ws : va_W} {H0 : Heap}
theorem va_mna {X : va_W} {L : List Nat} {f : Nat → va_E} {cc : ByteArray} (hexec : p.tables.exec = Jvm.exec) (hb : c.code = cc) {own : String} {index : Nat} {ty : FieldType} {cy : ClassId} (hown : s.vm.findClass own = some m.cls) (hclink : (Cond.classLink own index ("[" ++ (FieldType.array ty).toString)).before args s = true) (hover : va_AOA ty s) (harr : (Cond.arrayClass ty).before args s = true) (hcy : s.vm.findClass (FieldType.array ty).toString = some cy)
    (hK : va_K D cl tys s) (hP : va_P D cl (X ++ va_pl L f) H) (hD : va_D A (X ++ va_pl L f)) (hS : va_S A H0 H locs) (hA : ∀ q, H0.size ≤ q → A q) {n k : Int32} {N' K' : Nat} {z : vp_A} (hn : ¬ n < 0) (hk : ¬ k < 0) (hN : n.toNatClampNeg = N') (hM : k.toNatClampNeg = K')
    (hb1 : N' * 4 ≤ 536870912) (hb2 : K' * componentBytes ty ≤ 536870912) (hb3 : K' ≤ 536870912) (hdf : fits ty (defaultValue ty) = true) (hcells : cells + (1 + N') ≤ R.cells) (hslots : slots + (N' + N' * K') ≤ R.slots) (hz : ∀ c : ClassId, mq_in c K' (defaultValue ty) = vp_cell c z) (hdg : decode cc pc = .ok (.multianewarray index 2, 4))
    (kk : ∀ (q : Nat) (r : Nat → Nat) (cA : ClassId) (H1 : Heap) (locs1 : List Loc), (∀ i j : Nat, i < N' → j < N' → r i = r j → i = j) → (∀ i : Nat, i < N' → r i ∉ L) → va_K D cl (tys ++ [(cA, .array ty)]) s →
      va_P D cl ((X ++ [(q, .inl (cA, N', .inr (.inr (.inr (.inr (fun i => if i < N' then some (r i) else none))))))]) ++ va_pl (L ++ (List.range N').map r) (vr_up f ((List.range N').map r) (.inl (cy, z)))) H1 → va_D A ((X ++ [(q, .inl (cA, N', .inr (.inr (.inr (.inr (fun i => if i < N' then some (r i) else none))))))]) ++ va_pl (L ++ (List.range N').map r) (vr_up f ((List.range N').map r) (.inl (cy, z)))) → va_S A H0 H1 locs1 →
      W p l e R s m args below meth c H1 locs1 (cells + 1 + N') (slots + N' + N' * K') Q (F0 m (pc + 4) ls (.ref q :: rest))) : W p l e R s m args below meth c H locs cells slots Q (F0 m pc ls (.int k :: .int n :: rest)) := by
  subst hN
  subst hM
  intro T hT Xs
  obtain ⟨vm₁, cA, comp, fA, fC, ⟨kO, hO, hOk⟩, X', step⟩ := mq_step Xs hexec hown hclink (va_AOA.use hover) harr (g := F0 m pc ls (.int k :: .int n :: rest)) rfl (by rw [hb]; exact hdg) rfl hn hk hb1 hb2 hb3 hdf hcells hslots
  have ec : some cy = some comp := hcy.symm.trans fC
  cases ec
  have hTh : (T.setVm vm₁).heap = H := hT
  have f1 := mq_size (T := T.setVm vm₁) (cA := cA) (cI := cy) (N := n.toNatClampNeg) (K := k.toNatClampNeg) (dv := defaultValue ty) n.toNatClampNeg
  have f2 := mq_outer (T := T.setVm vm₁) (cA := cA) (cI := cy) (N := n.toNatClampNeg) (K := k.toNatClampNeg) (dv := defaultValue ty) n.toNatClampNeg
  have hold : ∀ x : Nat, x < H.size → (mq_st (T.setVm vm₁) cA cy n.toNatClampNeg k.toNatClampNeg (defaultValue ty) n.toNatClampNeg).heap[x]? = H[x]? := fun x hx => by
    have := mq_old (T := T.setVm vm₁) (cA := cA) (cI := cy) (N := n.toNatClampNeg) (K := k.toNatClampNeg) (dv := defaultValue ty) (x := x) (by rw [hTh]; exact hx) n.toNatClampNeg
    rw [hTh] at this
    exact this
  have hrow : ∀ j : Nat, j < n.toNatClampNeg → (mq_st (T.setVm vm₁) cA cy n.toNatClampNeg k.toNatClampNeg (defaultValue ty) n.toNatClampNeg).heap[H.size + 1 + j]? = some (vp_cell cy z) := fun j hj => by
    have := mq_inner (T := T.setVm vm₁) (cA := cA) (cI := cy) (N := n.toNatClampNeg) (K := k.toNatClampNeg) (dv := defaultValue ty) n.toNatClampNeg hj
    rw [hTh, hz] at this
    exact this
  rw [hTh] at f1 f2
  generalize hF : mq_st (T.setVm vm₁) cA cy n.toNatClampNeg k.toNatClampNeg (defaultValue ty) n.toNatClampNeg = F at X' step f1 f2 hold hrow
  have hout : mq_out cA n.toNatClampNeg H.size n.toNatClampNeg = vp_cell cA (n.toNatClampNeg, .inr (.inr (.inr (.inr (fun i => if i < n.toNatClampNeg then some (H.size + 1 + i) else none))))) := by
    rw [vp_cell_q]
    rfl
  rw [hout] at f2
  have hlt : ∀ a, a ∈ L → a < H.size := fun a ha => by
    obtain ⟨k9, hk9⟩ := va_pl_get (X := X) (f := f) ha
    exact (hP k9 _ hk9).lt
  have hnl : ∀ i : Nat, i < n.toNatClampNeg → H.size + 1 + i ∉ L := fun i _ h => by
    have := hlt _ h
    omega
  have hnm : ∀ a, a ∈ (List.range n.toNatClampNeg).map (fun i => H.size + 1 + i) → a ∉ L := fun a ha h => by
    obtain ⟨i, -, rfl⟩ := List.mem_map.mp ha
    have := hlt _ h
    omega
  have hP0 : va_P D cl (X ++ va_pl L f) F.heap := hP.kept (fun k9 x hx => hold x.1 ((hP k9 x hx).lt))
  have hP1 : va_P D cl ((X ++ va_pl L f) ++ [(H.size, .inl (cA, n.toNatClampNeg, .inr (.inr (.inr (.inr (fun i => if i < n.toNatClampNeg then some (H.size + 1 + i) else none))))))]) F.heap := hP0.app (fun k9 x hx => by
    have h0 : k9 < 1 := (List.getElem?_eq_some_iff.mp hx).1
    rw [show k9 = 0 by omega] at hx
    cases hx
    exact f2)
  have hP2 : va_P D cl (((X ++ va_pl L f) ++ [(H.size, .inl (cA, n.toNatClampNeg, .inr (.inr (.inr (.inr (fun i => if i < n.toNatClampNeg then some (H.size + 1 + i) else none))))))]) ++ ((List.range n.toNatClampNeg).map (fun i => H.size + 1 + i)).map (fun a => (a, .inl (cy, z)))) F.heap := hP1.app (fun k9 x hx => by
    obtain ⟨a, ha, rfl⟩ := List.mem_map.mp (List.mem_of_getElem? hx)
    obtain ⟨i, hi, rfl⟩ := List.mem_map.mp ha
    exact hrow i (List.mem_range.mp hi))
  have hD2 : va_D A (((X ++ va_pl L f) ++ [(H.size, .inl (cA, n.toNatClampNeg, .inr (.inr (.inr (.inr (fun i => if i < n.toNatClampNeg then some (H.size + 1 + i) else none))))))]) ++ ((List.range n.toNatClampNeg).map (fun i => H.size + 1 + i)).map (fun a => (a, .inl (cy, z)))) := by
    have hD1 := hD.push (e := .inl (cA, n.toNatClampNeg, .inr (.inr (.inr (.inr (fun i => if i < n.toNatClampNeg then some (H.size + 1 + i) else none)))))) hP rfl (hA _ hS.1)
    generalize hW1 : (X ++ va_pl L f) ++ [(H.size, .inl (cA, n.toNatClampNeg, .inr (.inr (.inr (.inr (fun i => if i < n.toNatClampNeg then some (H.size + 1 + i) else none))))))] = W1 at hD1 hP1 ⊢
    have hle : ∀ (k9 : Nat) (x : Nat × va_E), W1[k9]? = some x → x.1 ≤ H.size := fun k9 x hx => by
      rw [← hW1] at hx
      by_cases hl : k9 < (X ++ va_pl L f).length
      · rw [List.getElem?_append_left hl] at hx
        exact Nat.le_of_lt ((hP k9 x hx).lt)
      · rw [List.getElem?_append_right (by omega)] at hx
        have h0 : k9 - (X ++ va_pl L f).length < 1 := (List.getElem?_eq_some_iff.mp hx).1
        rw [show k9 - (X ++ va_pl L f).length = 0 by omega] at hx
        cases hx
        exact Nat.le_refl _
    have hr : ∀ (k9 : Nat) (x : Nat × va_E), (((List.range n.toNatClampNeg).map (fun i => H.size + 1 + i)).map (fun a => ((a, .inl (cy, z)) : Nat × va_E)))[k9]? = some x → x.1 = H.size + 1 + k9 := fun k9 x hx => by
      rw [List.getElem?_map, List.getElem?_map] at hx
      by_cases h9 : k9 < n.toNatClampNeg
      · rw [List.getElem?_range h9] at hx
        cases hx
        rfl
      · have hn0 : (List.range n.toNatClampNeg)[k9]? = none := List.getElem?_eq_none (by rw [List.length_range]; omega)
        rw [hn0] at hx
        cases hx
    refine ⟨fun i j x y hi hj hxy => ?_, fun k9 x hx => ?_⟩
    · by_cases h1 : i < W1.length <;> by_cases h2 : j < W1.length
      · rw [List.getElem?_append_left h1] at hi
        rw [List.getElem?_append_left h2] at hj
        exact hD1.1 i j x y hi hj hxy
      · rw [List.getElem?_append_left h1] at hi
        rw [List.getElem?_append_right (by omega)] at hj
        have := hle _ _ hi
        have := hr _ _ hj
        omega
      · rw [List.getElem?_append_right (by omega)] at hi
        rw [List.getElem?_append_left h2] at hj
        have := hle _ _ hj
        have := hr _ _ hi
        omega
      · rw [List.getElem?_append_right (by omega)] at hi hj
        have := hr _ _ hi
        have := hr _ _ hj
        omega
    · by_cases h1 : k9 < W1.length
      · rw [List.getElem?_append_left h1] at hx
        exact hD1.2 k9 x hx
      · rw [List.getElem?_append_right (by omega)] at hx
        have := hr _ _ hx
        exact hA _ (by have := hS.1; omega)
  have hAr : ArrOfT s cA (.array ty) := fun N9 z9 => by
    exact ⟨(fun q hq => by cases hq), kO, hO, _, hOk⟩
  have hK2 : va_K D cl (tys ++ [(cA, .array ty)]) s := ⟨hK.1, fun k9 x hx => by
    by_cases hl : k9 < tys.length
    · rw [List.getElem?_append_left hl] at hx
      exact hK.2 k9 x hx
    · rw [List.getElem?_append_right (by omega)] at hx
      have h0 : k9 - tys.length < 1 := (List.getElem?_eq_some_iff.mp hx).1
      rw [show k9 - tys.length = 0 by omega] at hx
      cases hx
      exact ⟨hAr, fA⟩⟩
  have hlc : ∀ x ∈ locs ++ (List.range n.toNatClampNeg).map (fun j => (⟨T.heap.size, j⟩ : Loc)), A x.base := fun x hx => by
    rcases List.mem_append.mp hx with h | h
    · exact hS.2.2 x h
    · obtain ⟨j, -, rfl⟩ := List.mem_map.mp h
      exact hA _ (by rw [hT]; exact hS.1)
  obtain ⟨t, a1, b1⟩ := kk H.size (fun i => H.size + 1 + i) cA F.heap _ (fun i j _ _ h => by have h9 : H.size + 1 + i = H.size + 1 + j := h; omega) hnl hK2 (by rw [← vr_rows hnm]; exact vr_lay hP2) (by rw [← vr_rows hnm]; exact vr_layD hD2) ⟨by rw [f1]; have := hS.1; omega, fun x h1 h2 => (hold x (Nat.lt_of_lt_of_le h1 hS.1)).trans (hS.2.1 x h1 h2), hlc⟩ F rfl X'
  refine ⟨t, step t ?_, b1⟩
  have e : T.heap.size = H.size := by rw [hT]
  rw [e]
  exact a1
end VGM
/-! ===== END ===== -/

/-! ===== BEGIN printed: names, fields, word lists, decode rows ===== -/
def RX0 : String := "AbbeyNotes$Image"
def TX0 : u_T := fun k => match k with
  | 0 => ("AbbeyNotes$Image", "realm", "LAbbeyNotes$Realm;", true)
  | 1 => ("AbbeyNotes$Image", "sights", "LAbbeyNotes$Sights;", true)
  | _ => ("AbbeyNotes$Image", "kept", "Z", false)
def tyX0 : Nat → FieldType := fun k => match k with
  | 0 => .object "AbbeyNotes$Realm"
  | 1 => .object "AbbeyNotes$Sights"
  | _ => .boolean
abbrev wsX00 : List Cond := u_ws RX0 TX0 3
theorem nmX0 : ∀ a, a < 3 → ∀ b, b < 3 → a ≠ b → (TX0 a).2.1 ≠ (TX0 b).2.1 := by decide +kernel
theorem tyX0_ok : ∀ k, k < 3 → parseFieldDescriptor (TX0 k).2.2.1 = some (tyX0 k) := by decide +kernel
abbrev cX0_init : ByteArray := prog_2_method_1_code
def yX0_init : MethodName := ⟨RX0, "<init>", "()V"⟩
def RX1 : String := "AbbeyNotes$Pad"
def TX1 : u_T := fun k => match k with
  | 0 => ("AbbeyNotes$Pad", "signs", "[I", true)
  | _ => ("AbbeyNotes$Pad", "size", "I", false)
def tyX1 : Nat → FieldType := fun k => match k with
  | 0 => .array .int
  | _ => .int
abbrev wsX10 : List Cond := u_ws RX1 TX1 2
theorem nmX1 : ∀ a, a < 2 → ∀ b, b < 2 → a ≠ b → (TX1 a).2.1 ≠ (TX1 b).2.1 := by decide +kernel
theorem tyX1_ok : ∀ k, k < 2 → parseFieldDescriptor (TX1 k).2.2.1 = some (tyX1 k) := by decide +kernel
abbrev cX1_init : ByteArray := prog_3_method_1_code
def yX1_init : MethodName := ⟨RX1, "<init>", "()V"⟩
abbrev cX1_add : ByteArray := prog_3_method_2_code
def yX1_add : MethodName := ⟨RX1, "add", "(I)V"⟩
abbrev cX1_signAt : ByteArray := prog_3_method_3_code
def yX1_signAt : MethodName := ⟨RX1, "signAt", "(I)I"⟩
abbrev cX1_faultPlace : ByteArray := prog_3_method_4_code
def yX1_faultPlace : MethodName := ⟨RX1, "faultPlace", "()I"⟩
abbrev cX1_nextBehind : ByteArray := prog_3_method_5_code
def yX1_nextBehind : MethodName := ⟨RX1, "nextBehind", "(II)I"⟩
abbrev cX1_nextBehindFirst : ByteArray := prog_3_method_6_code
def yX1_nextBehindFirst : MethodName := ⟨RX1, "nextBehindFirst", "(I)I"⟩
abbrev cX1_nextBehindDeed : ByteArray := prog_3_method_7_code
def yX1_nextBehindDeed : MethodName := ⟨RX1, "nextBehindDeed", "(I)I"⟩
abbrev cX1_isLetter : ByteArray := prog_3_method_8_code
def yX1_isLetter : MethodName := ⟨RX1, "isLetter", "(I)Z"⟩
def RX2 : String := "AbbeyNotes$Realm"
def TX2 : u_T := fun k => match k with
  | 0 => ("AbbeyNotes$Realm", "paper", "[I", true)
  | 1 => ("AbbeyNotes$Realm", "coin", "[I", true)
  | 2 => ("AbbeyNotes$Realm", "owes", "[[I", true)
  | 3 => ("AbbeyNotes$Realm", "price", "[I", true)
  | 4 => ("AbbeyNotes$Realm", "owner", "[I", true)
  | 5 => ("AbbeyNotes$Realm", "statePaper", "I", false)
  | 6 => ("AbbeyNotes$Realm", "forged", "I", false)
  | 7 => ("AbbeyNotes$Realm", "burnt", "I", false)
  | _ => ("AbbeyNotes$Realm", "months", "I", false)
def tyX2 : Nat → FieldType := fun k => match k with
  | 0 => .array .int
  | 1 => .array .int
  | 2 => .array (.array .int)
  | 3 => .array .int
  | 4 => .array .int
  | 5 => .int
  | 6 => .int
  | 7 => .int
  | _ => .int
abbrev wsX20 : List Cond := u_ws RX2 TX2 9
theorem nmX2 : ∀ a, a < 9 → ∀ b, b < 9 → a ≠ b → (TX2 a).2.1 ≠ (TX2 b).2.1 := by decide +kernel
theorem tyX2_ok : ∀ k, k < 9 → parseFieldDescriptor (TX2 k).2.2.1 = some (tyX2 k) := by decide +kernel
abbrev cX2_init : ByteArray := prog_4_method_1_code
def yX2_init : MethodName := ⟨RX2, "<init>", "()V"⟩
abbrev cX2_copyFrom : ByteArray := prog_4_method_2_code
def yX2_copyFrom : MethodName := ⟨RX2, "copyFrom", "(LAbbeyNotes$Realm;)V"⟩
abbrev cX2_notes : ByteArray := prog_4_method_3_code
def yX2_notes : MethodName := ⟨RX2, "notes", "()I"⟩
abbrev cX2_land : ByteArray := prog_4_method_4_code
def yX2_land : MethodName := ⟨RX2, "land", "()I"⟩
abbrev cX2_rate : ByteArray := prog_4_method_5_code
def yX2_rate : MethodName := ⟨RX2, "rate", "()I"⟩
abbrev cX2_priceOf : ByteArray := prog_4_method_6_code
def yX2_priceOf : MethodName := ⟨RX2, "priceOf", "(I)I"⟩
abbrev cX2_lotsOf : ByteArray := prog_4_method_7_code
def yX2_lotsOf : MethodName := ⟨RX2, "lotsOf", "(I)I"⟩
abbrev cX2_owesInAll : ByteArray := prog_4_method_8_code
def yX2_owesInAll : MethodName := ⟨RX2, "owesInAll", "(I)I"⟩
abbrev cX2_ofOne : ByteArray := prog_4_method_9_code
def yX2_ofOne : MethodName := ⟨RX2, "ofOne", "(II)I"⟩
abbrev cX2_act : ByteArray := prog_4_method_10_code
def yX2_act : MethodName := ⟨RX2, "act", "(III)I"⟩
abbrev cX2_printed : ByteArray := prog_4_method_11_code
def yX2_printed : MethodName := ⟨RX2, "printed", "(I)I"⟩
abbrev cX2_paidByState : ByteArray := prog_4_method_12_code
def yX2_paidByState : MethodName := ⟨RX2, "paidByState", "(II)I"⟩
abbrev cX2_bought : ByteArray := prog_4_method_13_code
def yX2_bought : MethodName := ⟨RX2, "bought", "(II)I"⟩
abbrev cX2_exchanged : ByteArray := prog_4_method_14_code
def yX2_exchanged : MethodName := ⟨RX2, "exchanged", "(II)I"⟩
abbrev cX2_settled : ByteArray := prog_4_method_15_code
def yX2_settled : MethodName := ⟨RX2, "settled", "(II)I"⟩
abbrev cX2_forgedFor : ByteArray := prog_4_method_16_code
def yX2_forgedFor : MethodName := ⟨RX2, "forgedFor", "(II)I"⟩
abbrev cX2_monthEnded : ByteArray := prog_4_method_17_code
def yX2_monthEnded : MethodName := ⟨RX2, "monthEnded", "()I"⟩
def RX3 : String := "AbbeyNotes$Settling"
def TX3 : u_T := fun k => match k with
  | 0 => ("AbbeyNotes$Settling", "due", "[I", true)
  | _ => ("AbbeyNotes$Settling", "groups", "[I", true)
def tyX3 : Nat → FieldType := fun k => match k with
  | 0 => .array .int
  | _ => .array .int
abbrev wsX30 : List Cond := u_ws RX3 TX3 2
theorem nmX3 : ∀ a, a < 2 → ∀ b, b < 2 → a ≠ b → (TX3 a).2.1 ≠ (TX3 b).2.1 := by decide +kernel
theorem tyX3_ok : ∀ k, k < 2 → parseFieldDescriptor (TX3 k).2.2.1 = some (tyX3 k) := by decide +kernel
abbrev cX3_init : ByteArray := prog_5_method_1_code
def yX3_init : MethodName := ⟨RX3, "<init>", "()V"⟩
abbrev cX3_weigh : ByteArray := prog_5_method_2_code
def yX3_weigh : MethodName := ⟨RX3, "weigh", "(LAbbeyNotes$Realm;)V"⟩
abbrev cX3_leastPaid : ByteArray := prog_5_method_3_code
def yX3_leastPaid : MethodName := ⟨RX3, "leastPaid", "()I"⟩
abbrev cX3_fewestPayments : ByteArray := prog_5_method_4_code
def yX3_fewestPayments : MethodName := ⟨RX3, "fewestPayments", "()I"⟩
abbrev cX3_dueTo : ByteArray := prog_5_method_5_code
def yX3_dueTo : MethodName := ⟨RX3, "dueTo", "(I)I"⟩
def RX4 : String := "AbbeyNotes$Sights"
def TX4 : u_T := fun k => match k with
  | 0 => ("AbbeyNotes$Sights", "chests", "[I", true)
  | 1 => ("AbbeyNotes$Sights", "many", "[I", true)
  | 2 => ("AbbeyNotes$Sights", "how", "[I", true)
  | 3 => ("AbbeyNotes$Sights", "untrue", "[I", true)
  | _ => ("AbbeyNotes$Sights", "size", "I", false)
def tyX4 : Nat → FieldType := fun k => match k with
  | 0 => .array .int
  | 1 => .array .int
  | 2 => .array .int
  | 3 => .array .int
  | _ => .int
abbrev wsX40 : List Cond := u_ws RX4 TX4 5
theorem nmX4 : ∀ a, a < 5 → ∀ b, b < 5 → a ≠ b → (TX4 a).2.1 ≠ (TX4 b).2.1 := by decide +kernel
theorem tyX4_ok : ∀ k, k < 5 → parseFieldDescriptor (TX4 k).2.2.1 = some (tyX4 k) := by decide +kernel
abbrev cX4_init : ByteArray := prog_6_method_1_code
def yX4_init : MethodName := ⟨RX4, "<init>", "()V"⟩
abbrev cX4_add : ByteArray := prog_6_method_2_code
def yX4_add : MethodName := ⟨RX4, "add", "(III)V"⟩
abbrev cX4_copyFrom : ByteArray := prog_6_method_3_code
def yX4_copyFrom : MethodName := ⟨RX4, "copyFrom", "(LAbbeyNotes$Sights;)V"⟩
abbrev cX4_fit : ByteArray := prog_6_method_4_code
def yX4_fit : MethodName := ⟨RX4, "fit", "(II)Z"⟩
abbrev cX4_tally : ByteArray := prog_6_method_5_code
def yX4_tally : MethodName := ⟨RX4, "tally", "(I)I"⟩
abbrev cX4_mostLeft : ByteArray := prog_6_method_6_code
def yX4_mostLeft : MethodName := ⟨RX4, "mostLeft", "(II)I"⟩
def RX5 : String := "AbbeyNotes$Trial"
def TX5 : u_T := fun k => match k with
  | 0 => ("AbbeyNotes$Trial", "realm", "LAbbeyNotes$Realm;", true)
  | 1 => ("AbbeyNotes$Trial", "acts", "I", false)
  | 2 => ("AbbeyNotes$Trial", "why", "I", false)
  | 3 => ("AbbeyNotes$Trial", "ended", "I", false)
  | 4 => ("AbbeyNotes$Trial", "fellIn", "I", false)
  | 5 => ("AbbeyNotes$Trial", "kind", "I", false)
  | 6 => ("AbbeyNotes$Trial", "who", "I", false)
  | 7 => ("AbbeyNotes$Trial", "number", "I", false)
  | _ => ("AbbeyNotes$Trial", "length", "I", false)
def tyX5 : Nat → FieldType := fun k => match k with
  | 0 => .object "AbbeyNotes$Realm"
  | 1 => .int
  | 2 => .int
  | 3 => .int
  | 4 => .int
  | 5 => .int
  | 6 => .int
  | 7 => .int
  | _ => .int
abbrev wsX50 : List Cond := u_ws RX5 TX5 9
theorem nmX5 : ∀ a, a < 9 → ∀ b, b < 9 → a ≠ b → (TX5 a).2.1 ≠ (TX5 b).2.1 := by decide +kernel
theorem tyX5_ok : ∀ k, k < 9 → parseFieldDescriptor (TX5 k).2.2.1 = some (tyX5 k) := by decide +kernel
abbrev cX5_init : ByteArray := prog_7_method_1_code
def yX5_init : MethodName := ⟨RX5, "<init>", "()V"⟩
abbrev cX5_follow : ByteArray := prog_7_method_2_code
def yX5_follow : MethodName := ⟨RX5, "follow", "(LAbbeyNotes$Pad;LAbbeyNotes$Realm;I)V"⟩
abbrev cX5_endMonth : ByteArray := prog_7_method_3_code
def yX5_endMonth : MethodName := ⟨RX5, "endMonth", "(I)V"⟩
abbrev cX5_read : ByteArray := prog_7_method_4_code
def yX5_read : MethodName := ⟨RX5, "read", "(LAbbeyNotes$Pad;I)V"⟩
abbrev cX5_kindOf : ByteArray := prog_7_method_5_code
def yX5_kindOf : MethodName := ⟨RX5, "kindOf", "(II)I"⟩
abbrev cX5_kindOfDeed : ByteArray := prog_7_method_6_code
def yX5_kindOfDeed : MethodName := ⟨RX5, "kindOfDeed", "(I)I"⟩
def RX6 : String := "AbbeyNotes$Waiting"
def TX6 : u_T := fun k => match k with
  | _ => ("AbbeyNotes$Waiting", "means", "[[J", true)
def tyX6 : Nat → FieldType := fun k => match k with
  | _ => .array (.array .long)
abbrev wsX60 : List Cond := u_ws RX6 TX6 1
theorem nmX6 : ∀ a, a < 1 → ∀ b, b < 1 → a ≠ b → (TX6 a).2.1 ≠ (TX6 b).2.1 := by decide +kernel
theorem tyX6_ok : ∀ k, k < 1 → parseFieldDescriptor (TX6 k).2.2.1 = some (tyX6 k) := by decide +kernel
abbrev cX6_init : ByteArray := prog_8_method_1_code
def yX6_init : MethodName := ⟨RX6, "<init>", "()V"⟩
abbrev cX6_scaledMean : ByteArray := prog_8_method_2_code
def yX6_scaledMean : MethodName := ⟨RX6, "scaledMean", "(III)J"⟩
def RX7 : String := "AbbeyNotes"
def TX7 : u_T := fun k => match k with
  | 0 => ("AbbeyNotes", "now", "LAbbeyNotes$Realm;", true)
  | 1 => ("AbbeyNotes", "sights", "LAbbeyNotes$Sights;", true)
  | 2 => ("AbbeyNotes", "pad", "LAbbeyNotes$Pad;", true)
  | 3 => ("AbbeyNotes", "trial", "LAbbeyNotes$Trial;", true)
  | 4 => ("AbbeyNotes", "settling", "LAbbeyNotes$Settling;", true)
  | 5 => ("AbbeyNotes", "waiting", "LAbbeyNotes$Waiting;", true)
  | _ => ("AbbeyNotes", "images", "[LAbbeyNotes$Image;", true)
def tyX7 : Nat → FieldType := fun k => match k with
  | 0 => .object "AbbeyNotes$Realm"
  | 1 => .object "AbbeyNotes$Sights"
  | 2 => .object "AbbeyNotes$Pad"
  | 3 => .object "AbbeyNotes$Trial"
  | 4 => .object "AbbeyNotes$Settling"
  | 5 => .object "AbbeyNotes$Waiting"
  | _ => .array (.object "AbbeyNotes$Image")
abbrev wsX70 : List Cond := u_ws RX7 TX7 7
theorem nmX7 : ∀ a, a < 7 → ∀ b, b < 7 → a ≠ b → (TX7 a).2.1 ≠ (TX7 b).2.1 := by decide +kernel
theorem tyX7_ok : ∀ k, k < 7 → parseFieldDescriptor (TX7 k).2.2.1 = some (tyX7 k) := by decide +kernel
abbrev cX7_init : ByteArray := prog_1_method_1_code
def yX7_init : MethodName := ⟨RX7, "<init>", "()V"⟩
abbrev cX7_one : ByteArray := prog_1_method_2_code
def yX7_one : MethodName := ⟨RX7, "one", "(III)I"⟩
abbrev cX7_owe : ByteArray := prog_1_method_3_code
def yX7_owe : MethodName := ⟨RX7, "owe", "(III)I"⟩
abbrev cX7_lot : ByteArray := prog_1_method_4_code
def yX7_lot : MethodName := ⟨RX7, "lot", "(III)I"⟩
abbrev cX7_set : ByteArray := prog_1_method_5_code
def yX7_set : MethodName := ⟨RX7, "set", "(II)I"⟩
abbrev cX7_say : ByteArray := prog_1_method_6_code
def yX7_say : MethodName := ⟨RX7, "say", "(I)I"⟩
abbrev cX7_wipe : ByteArray := prog_1_method_7_code
def yX7_wipe : MethodName := ⟨RX7, "wipe", "()I"⟩
abbrev cX7_fault : ByteArray := prog_1_method_8_code
def yX7_fault : MethodName := ⟨RX7, "fault", "()I"⟩
abbrev cX7_judge : ByteArray := prog_1_method_9_code
def yX7_judge : MethodName := ⟨RX7, "judge", "(I)I"⟩
abbrev cX7_behind : ByteArray := prog_1_method_10_code
def yX7_behind : MethodName := ⟨RX7, "behind", "(II)I"⟩
abbrev cX7_total : ByteArray := prog_1_method_11_code
def yX7_total : MethodName := ⟨RX7, "total", "(I)I"⟩
abbrev cX7_fell : ByteArray := prog_1_method_12_code
def yX7_fell : MethodName := ⟨RX7, "fell", "(I)I"⟩
abbrev cX7_done : ByteArray := prog_1_method_13_code
def yX7_done : MethodName := ⟨RX7, "done", "()I"⟩
abbrev cX7_struck : ByteArray := prog_1_method_14_code
def yX7_struck : MethodName := ⟨RX7, "struck", "(I)I"⟩
abbrev cX7_tryMonths : ByteArray := prog_1_method_15_code
def yX7_tryMonths : MethodName := ⟨RX7, "tryMonths", "(I)I"⟩
abbrev cX7_prints : ByteArray := prog_1_method_16_code
def yX7_prints : MethodName := ⟨RX7, "prints", "(I)I"⟩
abbrev cX7_buys : ByteArray := prog_1_method_17_code
def yX7_buys : MethodName := ⟨RX7, "buys", "(II)I"⟩
abbrev cX7_runs : ByteArray := prog_1_method_18_code
def yX7_runs : MethodName := ⟨RX7, "runs", "(III)I"⟩
abbrev cX7_wages : ByteArray := prog_1_method_19_code
def yX7_wages : MethodName := ⟨RX7, "wages", "(II)I"⟩
abbrev cX7_change : ByteArray := prog_1_method_20_code
def yX7_change : MethodName := ⟨RX7, "change", "(IIIII)J"⟩
abbrev cX7_sample : ByteArray := prog_1_method_21_code
def yX7_sample : MethodName := ⟨RX7, "sample", "(IIIII)J"⟩
abbrev cX7_seen : ByteArray := prog_1_method_22_code
def yX7_seen : MethodName := ⟨RX7, "seen", "(III)I"⟩
abbrev cX7_forget : ByteArray := prog_1_method_23_code
def yX7_forget : MethodName := ⟨RX7, "forget", "()I"⟩
abbrev cX7_clerks : ByteArray := prog_1_method_24_code
def yX7_clerks : MethodName := ⟨RX7, "clerks", "(II)I"⟩
abbrev cX7_count : ByteArray := prog_1_method_25_code
def yX7_count : MethodName := ⟨RX7, "count", "(II)I"⟩
abbrev cX7_year : ByteArray := prog_1_method_26_code
def yX7_year : MethodName := ⟨RX7, "year", "(III)I"⟩
abbrev cX7_image : ByteArray := prog_1_method_27_code
def yX7_image : MethodName := ⟨RX7, "image", "(I)I"⟩
abbrev cX7_restore : ByteArray := prog_1_method_28_code
def yX7_restore : MethodName := ⟨RX7, "restore", "(I)I"⟩
abbrev cX7_told : ByteArray := prog_1_method_29_code
def yX7_told : MethodName := ⟨RX7, "told", "(I)I"⟩
abbrev cX7_toldOfAll : ByteArray := prog_1_method_30_code
def yX7_toldOfAll : MethodName := ⟨RX7, "toldOfAll", "(I)I"⟩
abbrev cX7_toldOfOne : ByteArray := prog_1_method_31_code
def yX7_toldOfOne : MethodName := ⟨RX7, "toldOfOne", "(II)I"⟩
abbrev cX7_toldOfLot : ByteArray := prog_1_method_32_code
def yX7_toldOfLot : MethodName := ⟨RX7, "toldOfLot", "(II)I"⟩
abbrev cX7_toldOfDebt : ByteArray := prog_1_method_33_code
def yX7_toldOfDebt : MethodName := ⟨RX7, "toldOfDebt", "(II)I"⟩
abbrev cX7_within : ByteArray := prog_1_method_34_code
def yX7_within : MethodName := ⟨RX7, "within", "(III)Z"⟩
abbrev cX7_isOne : ByteArray := prog_1_method_35_code
def yX7_isOne : MethodName := ⟨RX7, "isOne", "(I)Z"⟩
abbrev cX7_rateOf : ByteArray := prog_1_method_36_code
def yX7_rateOf : MethodName := ⟨RX7, "rateOf", "(II)I"⟩
abbrev cX7_drawnNumber : ByteArray := prog_1_method_37_code
def yX7_drawnNumber : MethodName := ⟨RX7, "drawnNumber", "(II)I"⟩
abbrev cX7_choices : ByteArray := prog_1_method_38_code
def yX7_choices : MethodName := ⟨RX7, "choices", "(II)J"⟩
abbrev cX7_lowest : ByteArray := prog_1_method_39_code
def yX7_lowest : MethodName := ⟨RX7, "lowest", "(JJI)J"⟩
def RX8 : String := "AbbeyNotesModel"
def TX8 : u_T := fun k => match k with
  | 0 => ("AbbeyNotesModel", "paper", "[I", true)
  | 1 => ("AbbeyNotesModel", "coin", "[I", true)
  | 2 => ("AbbeyNotesModel", "owes", "[I", true)
  | 3 => ("AbbeyNotesModel", "price", "[I", true)
  | 4 => ("AbbeyNotesModel", "owner", "[I", true)
  | 5 => ("AbbeyNotesModel", "chest", "I", false)
  | 6 => ("AbbeyNotesModel", "forged", "I", false)
  | 7 => ("AbbeyNotesModel", "burnt", "I", false)
  | 8 => ("AbbeyNotesModel", "months", "I", false)
  | 9 => ("AbbeyNotesModel", "sightSet", "[I", true)
  | 10 => ("AbbeyNotesModel", "sightMany", "[I", true)
  | 11 => ("AbbeyNotesModel", "sightHow", "[I", true)
  | 12 => ("AbbeyNotesModel", "sights", "I", false)
  | 13 => ("AbbeyNotesModel", "pad", "[I", true)
  | 14 => ("AbbeyNotesModel", "padMany", "I", false)
  | 15 => ("AbbeyNotesModel", "act", "[I", true)
  | 16 => ("AbbeyNotesModel", "who", "[I", true)
  | 17 => ("AbbeyNotesModel", "much", "[I", true)
  | 18 => ("AbbeyNotesModel", "acts", "I", false)
  | 19 => ("AbbeyNotesModel", "had", "[I", true)
  | 20 => ("AbbeyNotesModel", "badAct", "I", false)
  | 21 => ("AbbeyNotesModel", "badWhy", "I", false)
  | 22 => ("AbbeyNotesModel", "endedMany", "I", false)
  | 23 => ("AbbeyNotesModel", "endRate", "[I", true)
  | 24 => ("AbbeyNotesModel", "net", "[I", true)
  | 25 => ("AbbeyNotesModel", "evenSets", "[I", true)
  | 26 => ("AbbeyNotesModel", "row", "[I", true)
  | 27 => ("AbbeyNotesModel", "brings", "[J", true)
  | 28 => ("AbbeyNotesModel", "bringsThen", "[J", true)
  | 29 => ("AbbeyNotesModel", "choose", "[J", true)
  | 30 => ("AbbeyNotesModel", "kept", "[I", true)
  | 31 => ("AbbeyNotesModel", "isKept", "[Z", true)
  | 32 => ("AbbeyNotesModel", "keptAt", "I", false)
  | _ => ("AbbeyNotesModel", "isWriting", "Z", false)
def tyX8 : Nat → FieldType := fun k => match k with
  | 0 => .array .int
  | 1 => .array .int
  | 2 => .array .int
  | 3 => .array .int
  | 4 => .array .int
  | 5 => .int
  | 6 => .int
  | 7 => .int
  | 8 => .int
  | 9 => .array .int
  | 10 => .array .int
  | 11 => .array .int
  | 12 => .int
  | 13 => .array .int
  | 14 => .int
  | 15 => .array .int
  | 16 => .array .int
  | 17 => .array .int
  | 18 => .int
  | 19 => .array .int
  | 20 => .int
  | 21 => .int
  | 22 => .int
  | 23 => .array .int
  | 24 => .array .int
  | 25 => .array .int
  | 26 => .array .int
  | 27 => .array .long
  | 28 => .array .long
  | 29 => .array .long
  | 30 => .array .int
  | 31 => .array .boolean
  | 32 => .int
  | _ => .boolean
abbrev wsX80 : List Cond := u_ws RX8 TX8 34
theorem nmX8 : ∀ a, a < 34 → ∀ b, b < 34 → a ≠ b → (TX8 a).2.1 ≠ (TX8 b).2.1 := by decide +kernel
theorem tyX8_ok : ∀ k, k < 34 → parseFieldDescriptor (TX8 k).2.2.1 = some (tyX8 k) := by decide +kernel
abbrev cX8_init : ByteArray := prog_10_method_1_code
def yX8_init : MethodName := ⟨RX8, "<init>", "()V"⟩
abbrev cX8_in : ByteArray := prog_10_method_3_code
def yX8_in : MethodName := ⟨RX8, "in", "(JJJ)Z"⟩
abbrev cX8_bitsOf : ByteArray := prog_10_method_4_code
def yX8_bitsOf : MethodName := ⟨RX8, "bitsOf", "(I)I"⟩
abbrev cX8_isOne : ByteArray := prog_10_method_5_code
def yX8_isOne : MethodName := ⟨RX8, "isOne", "(I)Z"⟩
abbrev cX8_one : ByteArray := prog_10_method_6_code
def yX8_one : MethodName := ⟨RX8, "one", "(III)I"⟩
abbrev cX8_owe : ByteArray := prog_10_method_7_code
def yX8_owe : MethodName := ⟨RX8, "owe", "(III)I"⟩
abbrev cX8_lot : ByteArray := prog_10_method_8_code
def yX8_lot : MethodName := ⟨RX8, "lot", "(III)I"⟩
abbrev cX8_set : ByteArray := prog_10_method_9_code
def yX8_set : MethodName := ⟨RX8, "set", "(II)I"⟩
abbrev cX8_say : ByteArray := prog_10_method_10_code
def yX8_say : MethodName := ⟨RX8, "say", "(I)I"⟩
abbrev cX8_wipe : ByteArray := prog_10_method_11_code
def yX8_wipe : MethodName := ⟨RX8, "wipe", "()I"⟩
abbrev cX8_close : ByteArray := prog_10_method_12_code
def yX8_close : MethodName := ⟨RX8, "close", "(II)I"⟩
abbrev cX8_isLetter : ByteArray := prog_10_method_13_code
def yX8_isLetter : MethodName := ⟨RX8, "isLetter", "(I)Z"⟩
abbrev cX8_begin : ByteArray := prog_10_method_14_code
def yX8_begin : MethodName := ⟨RX8, "begin", "(I)I"⟩
abbrev cX8_deed : ByteArray := prog_10_method_15_code
def yX8_deed : MethodName := ⟨RX8, "deed", "(I)I"⟩
abbrev cX8_forWhom : ByteArray := prog_10_method_16_code
def yX8_forWhom : MethodName := ⟨RX8, "forWhom", "(I)I"⟩
abbrev cX8_number : ByteArray := prog_10_method_17_code
def yX8_number : MethodName := ⟨RX8, "number", "(III)I"⟩
abbrev cX8_readOn : ByteArray := prog_10_method_18_code
def yX8_readOn : MethodName := ⟨RX8, "readOn", "(II)I"⟩
abbrev cX8_fault : ByteArray := prog_10_method_19_code
def yX8_fault : MethodName := ⟨RX8, "fault", "()I"⟩
abbrev cX8_notes : ByteArray := prog_10_method_20_code
def yX8_notes : MethodName := ⟨RX8, "notes", "()I"⟩
abbrev cX8_land : ByteArray := prog_10_method_21_code
def yX8_land : MethodName := ⟨RX8, "land", "()I"⟩
abbrev cX8_rateOf : ByteArray := prog_10_method_22_code
def yX8_rateOf : MethodName := ⟨RX8, "rateOf", "(IJ)I"⟩
abbrev cX8_rate : ByteArray := prog_10_method_23_code
def yX8_rate : MethodName := ⟨RX8, "rate", "()I"⟩
abbrev cX8_worth : ByteArray := prog_10_method_24_code
def yX8_worth : MethodName := ⟨RX8, "worth", "(I)I"⟩
abbrev cX8_payment : ByteArray := prog_10_method_25_code
def yX8_payment : MethodName := ⟨RX8, "payment", "(II)I"⟩
abbrev cX8_whyNotChange : ByteArray := prog_10_method_26_code
def yX8_whyNotChange : MethodName := ⟨RX8, "whyNotChange", "(II)I"⟩
abbrev cX8_whyNotPay : ByteArray := prog_10_method_27_code
def yX8_whyNotPay : MethodName := ⟨RX8, "whyNotPay", "(II)I"⟩
abbrev cX8_whyNot : ByteArray := prog_10_method_28_code
def yX8_whyNot : MethodName := ⟨RX8, "whyNot", "(III)I"⟩
abbrev cX8_swap : ByteArray := prog_10_method_29_code
def yX8_swap : MethodName := ⟨RX8, "swap", "(II)V"⟩
abbrev cX8_pay : ByteArray := prog_10_method_30_code
def yX8_pay : MethodName := ⟨RX8, "pay", "(II)V"⟩
abbrev cX8_buy : ByteArray := prog_10_method_31_code
def yX8_buy : MethodName := ⟨RX8, "buy", "(II)V"⟩
abbrev cX8_happen : ByteArray := prog_10_method_32_code
def yX8_happen : MethodName := ⟨RX8, "happen", "(III)V"⟩
abbrev cX8_keepNow : ByteArray := prog_10_method_33_code
def yX8_keepNow : MethodName := ⟨RX8, "keepNow", "()V"⟩
abbrev cX8_back : ByteArray := prog_10_method_34_code
def yX8_back : MethodName := ⟨RX8, "back", "(I)I"⟩
abbrev cX8_goMonths : ByteArray := prog_10_method_35_code
def yX8_goMonths : MethodName := ⟨RX8, "goMonths", "()V"⟩
abbrev cX8_refusal : ByteArray := prog_10_method_36_code
def yX8_refusal : MethodName := ⟨RX8, "refusal", "()I"⟩
abbrev cX8_judge : ByteArray := prog_10_method_37_code
def yX8_judge : MethodName := ⟨RX8, "judge", "(I)I"⟩
abbrev cX8_lotsOf : ByteArray := prog_10_method_38_code
def yX8_lotsOf : MethodName := ⟨RX8, "lotsOf", "(I)I"⟩
abbrev cX8_owesInAll : ByteArray := prog_10_method_39_code
def yX8_owesInAll : MethodName := ⟨RX8, "owesInAll", "(I)I"⟩
abbrev cX8_ofOne : ByteArray := prog_10_method_40_code
def yX8_ofOne : MethodName := ⟨RX8, "ofOne", "(II)I"⟩
abbrev cX8_behind : ByteArray := prog_10_method_41_code
def yX8_behind : MethodName := ⟨RX8, "behind", "(II)I"⟩
abbrev cX8_ofAll : ByteArray := prog_10_method_42_code
def yX8_ofAll : MethodName := ⟨RX8, "ofAll", "(I)I"⟩
abbrev cX8_total : ByteArray := prog_10_method_43_code
def yX8_total : MethodName := ⟨RX8, "total", "(I)I"⟩
abbrev cX8_fell : ByteArray := prog_10_method_44_code
def yX8_fell : MethodName := ⟨RX8, "fell", "(I)I"⟩
abbrev cX8_done : ByteArray := prog_10_method_45_code
def yX8_done : MethodName := ⟨RX8, "done", "()I"⟩
abbrev cX8_netOf : ByteArray := prog_10_method_46_code
def yX8_netOf : MethodName := ⟨RX8, "netOf", "(I)I"⟩
abbrev cX8_mostEven : ByteArray := prog_10_method_47_code
def yX8_mostEven : MethodName := ⟨RX8, "mostEven", "(I)I"⟩
abbrev cX8_struck : ByteArray := prog_10_method_48_code
def yX8_struck : MethodName := ⟨RX8, "struck", "(I)I"⟩
abbrev cX8_prints : ByteArray := prog_10_method_49_code
def yX8_prints : MethodName := ⟨RX8, "prints", "(I)I"⟩
abbrev cX8_pricesOf : ByteArray := prog_10_method_50_code
def yX8_pricesOf : MethodName := ⟨RX8, "pricesOf", "(I)I"⟩
abbrev cX8_buys : ByteArray := prog_10_method_51_code
def yX8_buys : MethodName := ⟨RX8, "buys", "(II)I"⟩
abbrev cX8_runs : ByteArray := prog_10_method_52_code
def yX8_runs : MethodName := ⟨RX8, "runs", "(III)I"⟩
abbrev cX8_wages : ByteArray := prog_10_method_53_code
def yX8_wages : MethodName := ⟨RX8, "wages", "(II)I"⟩
abbrev cX8_lowest : ByteArray := prog_10_method_54_code
def yX8_lowest : MethodName := ⟨RX8, "lowest", "(JJI)J"⟩
abbrev cX8_change : ByteArray := prog_10_method_55_code
def yX8_change : MethodName := ⟨RX8, "change", "(IIIII)J"⟩
abbrev cX8_chooseOf : ByteArray := prog_10_method_56_code
def yX8_chooseOf : MethodName := ⟨RX8, "chooseOf", "(II)J"⟩
abbrev cX8_sample : ByteArray := prog_10_method_57_code
def yX8_sample : MethodName := ⟨RX8, "sample", "(IIIII)J"⟩
abbrev cX8_seen : ByteArray := prog_10_method_58_code
def yX8_seen : MethodName := ⟨RX8, "seen", "(III)I"⟩
abbrev cX8_forget : ByteArray := prog_10_method_59_code
def yX8_forget : MethodName := ⟨RX8, "forget", "()I"⟩
abbrev cX8_fits : ByteArray := prog_10_method_60_code
def yX8_fits : MethodName := ⟨RX8, "fits", "(II)Z"⟩
abbrev cX8_clerks : ByteArray := prog_10_method_61_code
def yX8_clerks : MethodName := ⟨RX8, "clerks", "(II)I"⟩
abbrev cX8_mostLeft : ByteArray := prog_10_method_62_code
def yX8_mostLeft : MethodName := ⟨RX8, "mostLeft", "(II)I"⟩
abbrev cX8_count : ByteArray := prog_10_method_63_code
def yX8_count : MethodName := ⟨RX8, "count", "(II)I"⟩
abbrev cX8_actBy : ByteArray := prog_10_method_64_code
def yX8_actBy : MethodName := ⟨RX8, "actBy", "(I)I"⟩
abbrev cX8_muchBy : ByteArray := prog_10_method_65_code
def yX8_muchBy : MethodName := ⟨RX8, "muchBy", "(II)I"⟩
abbrev cX8_year : ByteArray := prog_10_method_66_code
def yX8_year : MethodName := ⟨RX8, "year", "(III)I"⟩
abbrev cX8_pass : ByteArray := prog_10_method_67_code
def yX8_pass : MethodName := ⟨RX8, "pass", "(I)I"⟩
abbrev cX8_passRow : ByteArray := prog_10_method_68_code
def yX8_passRow : MethodName := ⟨RX8, "passRow", "([II)V"⟩
abbrev cX8_passAll : ByteArray := prog_10_method_69_code
def yX8_passAll : MethodName := ⟨RX8, "passAll", "()V"⟩
abbrev cX8_image : ByteArray := prog_10_method_70_code
def yX8_image : MethodName := ⟨RX8, "image", "(I)I"⟩
abbrev cX8_restore : ByteArray := prog_10_method_71_code
def yX8_restore : MethodName := ⟨RX8, "restore", "(I)I"⟩
abbrev cX8_toldOfOne : ByteArray := prog_10_method_72_code
def yX8_toldOfOne : MethodName := ⟨RX8, "toldOfOne", "(II)I"⟩
abbrev cX8_toldOfAll : ByteArray := prog_10_method_73_code
def yX8_toldOfAll : MethodName := ⟨RX8, "toldOfAll", "(I)I"⟩
abbrev cX8_told : ByteArray := prog_10_method_74_code
def yX8_told : MethodName := ⟨RX8, "told", "(I)I"⟩
def RJ6 : String := "java/lang/Integer"
def TJ6 : u_T := fun k => match k with
  | _ => ("", "", "", false)
def tyJ6 : Nat → FieldType := fun k => match k with
  | _ => .int
abbrev wsJ60 : List Cond := u_ws RJ6 TJ6 0
theorem nmJ6 : ∀ a, a < 0 → ∀ b, b < 0 → a ≠ b → (TJ6 a).2.1 ≠ (TJ6 b).2.1 := by decide +kernel
theorem tyJ6_ok : ∀ k, k < 0 → parseFieldDescriptor (TJ6 k).2.2.1 = some (tyJ6 k) := by decide +kernel
abbrev cJ6_bitCount_0f7a4 : ByteArray := prog_11_method_49_code
def yJ6_bitCount_0f7a4 : MethodName := ⟨RJ6, "bitCount", "(I)I"⟩
def RJ9 : String := "java/lang/Math"
def TJ9 : u_T := fun k => match k with
  | _ => ("", "", "", false)
def tyJ9 : Nat → FieldType := fun k => match k with
  | _ => .int
abbrev wsJ90 : List Cond := u_ws RJ9 TJ9 0
theorem nmJ9 : ∀ a, a < 0 → ∀ b, b < 0 → a ≠ b → (TJ9 a).2.1 ≠ (TJ9 b).2.1 := by decide +kernel
theorem tyJ9_ok : ∀ k, k < 0 → parseFieldDescriptor (TJ9 k).2.2.1 = some (tyJ9 k) := by decide +kernel
abbrev cJ9_max_7cf53 : ByteArray := prog_12_method_65_code
def yJ9_max_7cf53 : MethodName := ⟨RJ9, "max", "(II)I"⟩
abbrev cJ9_max_f86c9 : ByteArray := prog_12_method_66_code
def yJ9_max_f86c9 : MethodName := ⟨RJ9, "max", "(JJ)J"⟩
abbrev cJ9_min_7cf53 : ByteArray := prog_12_method_69_code
def yJ9_min_7cf53 : MethodName := ⟨RJ9, "min", "(II)I"⟩
def RJ10 : String := "java/lang/System"
def TJ10 : u_T := fun k => match k with
  | _ => ("", "", "", false)
def tyJ10 : Nat → FieldType := fun k => match k with
  | _ => .int
abbrev wsJ100 : List Cond := u_ws RJ10 TJ10 0
theorem nmJ10 : ∀ a, a < 0 → ∀ b, b < 0 → a ≠ b → (TJ10 a).2.1 ≠ (TJ10 b).2.1 := by decide +kernel
theorem tyJ10_ok : ∀ k, k < 0 → parseFieldDescriptor (TJ10 k).2.2.1 = some (tyJ10 k) := by decide +kernel
def RL : String := "AbbeyNotesLaw"
abbrev cL_law : ByteArray := code
def yL_law : MethodName := ⟨RL, "law", "([I)Z"⟩
def wsL_law_r1 : List Cond := [Cond.classLink RL 7 RX7, Cond.instantiable RX7 7, Cond.initialized RX7, Cond.classLink RL 10 RX8, Cond.instantiable RX8 34, Cond.initialized RX8, Cond.methodLink RL 9 yX7_init, Cond.instanceMethod yX7_init, Cond.code yX7_init cX7_init 2 none, Cond.methodLink RX7 1 objectInit, Cond.instanceMethod objectInit, Cond.code objectInit ⟨#[0xb1]⟩ 1 none, Cond.classLink RX7 7 RX2, Cond.instantiable RX2 9, Cond.initialized RX2, Cond.fieldLink RX7 10 "AbbeyNotes" "now" "LAbbeyNotes$Realm;", Cond.classLink RX7 16 RX4, Cond.instantiable RX4 5, Cond.initialized RX4, Cond.fieldLink RX7 19 "AbbeyNotes" "sights" "LAbbeyNotes$Sights;", Cond.classLink RX7 23 RX1, Cond.instantiable RX1 2, Cond.initialized RX1, Cond.fieldLink RX7 26 "AbbeyNotes" "pad" "LAbbeyNotes$Pad;"]
def wsL_law_r2 : List Cond := [Cond.classLink RX7 30 RX5, Cond.instantiable RX5 9, Cond.initialized RX5, Cond.fieldLink RX7 33 "AbbeyNotes" "trial" "LAbbeyNotes$Trial;", Cond.classLink RX7 37 RX3, Cond.instantiable RX3 2, Cond.initialized RX3, Cond.fieldLink RX7 40 "AbbeyNotes" "settling" "LAbbeyNotes$Settling;", Cond.classLink RX7 44 RX6, Cond.instantiable RX6 1, Cond.initialized RX6, Cond.fieldLink RX7 47 "AbbeyNotes" "waiting" "LAbbeyNotes$Waiting;", Cond.classLink RX7 51 RX0, Cond.fieldLink RX7 53 "AbbeyNotes" "images" "[LAbbeyNotes$Image;", Cond.instantiable RX0 3, Cond.initialized RX0, Cond.methodLink RX7 9 yX2_init, Cond.instanceMethod yX2_init, Cond.code yX2_init cX2_init 2 none, Cond.methodLink RX2 3 objectInit, Cond.arrayClass .int, Cond.fieldLink RX2 9 "AbbeyNotes$Realm" "paper" "[I", Cond.fieldLink RX2 15 "AbbeyNotes$Realm" "coin" "[I", Cond.classLink RX2 18 "[[I"]
def wsL_law_r3 : List Cond := [Cond.fieldLink RX2 20 "AbbeyNotes$Realm" "owes" "[[I", Cond.fieldLink RX2 23 "AbbeyNotes$Realm" "price" "[I", Cond.fieldLink RX2 26 "AbbeyNotes$Realm" "owner" "[I", Cond.instanceMethod yX4_init, Cond.code yX4_init cX4_init 1 none, Cond.methodLink RX4 3 objectInit, Cond.fieldLink RX4 9 "AbbeyNotes$Sights" "chests" "[I", Cond.fieldLink RX4 15 "AbbeyNotes$Sights" "many" "[I", Cond.fieldLink RX4 18 "AbbeyNotes$Sights" "how" "[I", Cond.fieldLink RX4 21 "AbbeyNotes$Sights" "untrue" "[I", Cond.instanceMethod yX1_init, Cond.code yX1_init cX1_init 1 none, Cond.methodLink RX1 3 objectInit, Cond.fieldLink RX1 9 "AbbeyNotes$Pad" "signs" "[I", Cond.instanceMethod yX5_init, Cond.code yX5_init cX5_init 1 none, Cond.methodLink RX5 3 objectInit, Cond.classLink RX5 9 RX2, Cond.fieldLink RX5 12 "AbbeyNotes$Trial" "realm" "LAbbeyNotes$Realm;", Cond.methodLink RX5 11 yX2_init, Cond.instanceMethod yX3_init, Cond.code yX3_init cX3_init 1 none, Cond.methodLink RX3 3 objectInit, Cond.fieldLink RX3 9 "AbbeyNotes$Settling" "due" "[I"]
def wsL_law_r4 : List Cond := [Cond.fieldLink RX3 15 "AbbeyNotes$Settling" "groups" "[I", Cond.instanceMethod yX6_init, Cond.code yX6_init cX6_init 1 none, Cond.methodLink RX6 3 objectInit, Cond.classLink RX6 11 "[[J", Cond.arrayClass .long, Cond.fieldLink RX6 13 "AbbeyNotes$Waiting" "means" "[[J", Cond.instanceMethod yX0_init, Cond.code yX0_init cX0_init 1 none, Cond.methodLink RX0 1 objectInit, Cond.classLink RX0 7 RX2, Cond.fieldLink RX0 10 "AbbeyNotes$Image" "realm" "LAbbeyNotes$Realm;", Cond.classLink RX0 16 RX4, Cond.fieldLink RX0 19 "AbbeyNotes$Image" "sights" "LAbbeyNotes$Sights;", Cond.methodLink RX0 9 yX2_init, Cond.methodLink RL 12 yX8_init, Cond.instanceMethod yX8_init, Cond.code yX8_init cX8_init 2 none, Cond.methodLink RX8 1 objectInit, Cond.fieldLink RX8 7 "AbbeyNotesModel" "paper" "[I", Cond.fieldLink RX8 13 "AbbeyNotesModel" "coin" "[I", Cond.fieldLink RX8 16 "AbbeyNotesModel" "owes" "[I", Cond.fieldLink RX8 19 "AbbeyNotesModel" "price" "[I", Cond.fieldLink RX8 22 "AbbeyNotesModel" "owner" "[I"]
def wsL_law_r5 : List Cond := [Cond.fieldLink RX8 25 "AbbeyNotesModel" "sightSet" "[I", Cond.fieldLink RX8 28 "AbbeyNotesModel" "sightMany" "[I", Cond.fieldLink RX8 31 "AbbeyNotesModel" "sightHow" "[I", Cond.fieldLink RX8 34 "AbbeyNotesModel" "pad" "[I", Cond.fieldLink RX8 37 "AbbeyNotesModel" "act" "[I", Cond.fieldLink RX8 40 "AbbeyNotesModel" "who" "[I", Cond.fieldLink RX8 43 "AbbeyNotesModel" "much" "[I", Cond.fieldLink RX8 46 "AbbeyNotesModel" "had" "[I", Cond.fieldLink RX8 49 "AbbeyNotesModel" "endRate" "[I", Cond.fieldLink RX8 52 "AbbeyNotesModel" "net" "[I", Cond.fieldLink RX8 55 "AbbeyNotesModel" "evenSets" "[I", Cond.fieldLink RX8 58 "AbbeyNotesModel" "row" "[I", Cond.fieldLink RX8 61 "AbbeyNotesModel" "brings" "[J", Cond.fieldLink RX8 65 "AbbeyNotesModel" "bringsThen" "[J", Cond.fieldLink RX8 68 "AbbeyNotesModel" "choose" "[J", Cond.fieldLink RX8 71 "AbbeyNotesModel" "kept" "[I", Cond.arrayClass .boolean, Cond.fieldLink RX8 74 "AbbeyNotesModel" "isKept" "[Z", Cond.methodLink RL 13 yX7_one, Cond.instanceMethod yX7_one, Cond.selects RX7 yX7_one yX7_one, Cond.code yX7_one cX7_one 5 (some .int), Cond.fieldLink RX7 66 "AbbeyNotes$Realm" "paper" "[I", Cond.fieldLink RX7 70 "AbbeyNotes$Realm" "coin" "[I"]
def wsL_law_r6 : List Cond := [Cond.methodLink RX7 58 yX7_isOne, Cond.static yX7_isOne, Cond.code yX7_isOne cX7_isOne 1 (some .boolean), Cond.methodLink RX7 62 yX7_within, Cond.static yX7_within, Cond.code yX7_within cX7_within 3 (some .boolean), Cond.methodLink RL 17 yX8_one, Cond.instanceMethod yX8_one, Cond.selects RX8 yX8_one yX8_one, Cond.code yX8_one cX8_one 5 (some .int), Cond.constantLong RX8 88 (9999), Cond.methodLink RX8 84 yX8_isOne, Cond.static yX8_isOne, Cond.code yX8_isOne cX8_isOne 1 (some .boolean), Cond.constantLong RX8 78 (5), Cond.methodLink RX8 80 yX8_in, Cond.static yX8_in, Cond.code yX8_in cX8_in 6 (some .boolean), Cond.methodLink RL 18 yX7_owe, Cond.instanceMethod yX7_owe, Cond.selects RX7 yX7_owe yX7_owe, Cond.code yX7_owe cX7_owe 5 (some .int), Cond.fieldLink RX7 73 "AbbeyNotes$Realm" "owes" "[[I", Cond.methodLink RL 21 yX8_owe]
def wsL_law_r7 : List Cond := [Cond.instanceMethod yX8_owe, Cond.selects RX8 yX8_owe yX8_owe, Cond.code yX8_owe cX8_owe 5 (some .int), Cond.constantLong RX8 90 (999), Cond.methodLink RL 22 yX7_lot, Cond.instanceMethod yX7_lot, Cond.selects RX7 yX7_lot yX7_lot, Cond.code yX7_lot cX7_lot 5 (some .int), Cond.fieldLink RX7 77 "AbbeyNotes$Realm" "price" "[I", Cond.fieldLink RX7 80 "AbbeyNotes$Realm" "owner" "[I", Cond.methodLink RL 25 yX8_lot, Cond.instanceMethod yX8_lot, Cond.selects RX8 yX8_lot yX8_lot, Cond.code yX8_lot cX8_lot 5 (some .int), Cond.constantLong RX8 92 (7), Cond.constantLong RX8 94 (-1), Cond.methodLink RL 26 yX7_set, Cond.instanceMethod yX7_set, Cond.selects RX7 yX7_set yX7_set, Cond.code yX7_set cX7_set 4 (some .int), Cond.constant RX7 83 (99999), Cond.fieldLink RX7 84 "AbbeyNotes$Realm" "statePaper" "I", Cond.fieldLink RX7 88 "AbbeyNotes$Realm" "forged" "I", Cond.methodLink RL 30 yX8_set]
def wsL_law_r8 : List Cond := [Cond.instanceMethod yX8_set, Cond.selects RX8 yX8_set yX8_set, Cond.code yX8_set cX8_set 4 (some .int), Cond.constantLong RX8 96 (99999), Cond.fieldLink RX8 98 "AbbeyNotesModel" "chest" "I", Cond.fieldLink RX8 102 "AbbeyNotesModel" "forged" "I", Cond.methodLink RL 31 yX7_say, Cond.instanceMethod yX7_say, Cond.selects RX7 yX7_say yX7_say, Cond.code yX7_say cX7_say 2 (some .int), Cond.fieldLink RX7 91 "AbbeyNotes$Pad" "size" "I", Cond.methodLink RX7 94 yX1_add, Cond.instanceMethod yX1_add, Cond.selects RX1 yX1_add yX1_add, Cond.code yX1_add cX1_add 2 none, Cond.fieldLink RX1 15 "AbbeyNotes$Pad" "size" "I", Cond.methodLink RL 35 yX8_say, Cond.instanceMethod yX8_say, Cond.selects RX8 yX8_say yX8_say, Cond.code yX8_say cX8_say 2 (some .int), Cond.constantLong RX8 105 (33), Cond.constantLong RX8 107 (126), Cond.fieldLink RX8 109 "AbbeyNotesModel" "padMany" "I", Cond.methodLink RL 36 yX7_wipe]
def wsL_law_r9 : List Cond := [Cond.instanceMethod yX7_wipe, Cond.selects RX7 yX7_wipe yX7_wipe, Cond.code yX7_wipe cX7_wipe 2 (some .int), Cond.methodLink RL 40 yX8_wipe, Cond.instanceMethod yX8_wipe, Cond.selects RX8 yX8_wipe yX8_wipe, Cond.code yX8_wipe cX8_wipe 2 (some .int), Cond.methodLink RL 41 yX7_fault, Cond.instanceMethod yX7_fault, Cond.selects RX7 yX7_fault yX7_fault, Cond.code yX7_fault cX7_fault 1 (some .int), Cond.methodLink RX7 98 yX1_faultPlace, Cond.instanceMethod yX1_faultPlace, Cond.selects RX1 yX1_faultPlace yX1_faultPlace, Cond.code yX1_faultPlace cX1_faultPlace 3 (some .int), Cond.methodLink RX1 19 yX1_nextBehind, Cond.static yX1_nextBehind, Cond.code yX1_nextBehind cX1_nextBehind 2 (some .int), Cond.methodLink RX1 23 yX1_nextBehindFirst, Cond.static yX1_nextBehindFirst, Cond.code yX1_nextBehindFirst cX1_nextBehindFirst 1 (some .int), Cond.methodLink RX1 31 yX1_isLetter, Cond.static yX1_isLetter, Cond.code yX1_isLetter cX1_isLetter 1 (some .boolean)]
def wsL_law_r10 : List Cond := [Cond.methodLink RX1 35 yX1_nextBehindDeed, Cond.static yX1_nextBehindDeed, Cond.code yX1_nextBehindDeed cX1_nextBehindDeed 1 (some .int), Cond.methodLink RL 44 yX8_fault, Cond.instanceMethod yX8_fault, Cond.selects RX8 yX8_fault yX8_fault, Cond.code yX8_fault cX8_fault 3 (some .int), Cond.fieldLink RX8 112 "AbbeyNotesModel" "acts" "I", Cond.methodLink RX8 148 yX8_readOn, Cond.instanceMethod yX8_readOn, Cond.selects RX8 yX8_readOn yX8_readOn, Cond.code yX8_readOn cX8_readOn 3 (some .int), Cond.constantLong RX8 144 (48), Cond.constantLong RX8 146 (55), Cond.methodLink RX8 130 yX8_begin, Cond.instanceMethod yX8_begin, Cond.selects RX8 yX8_begin yX8_begin, Cond.code yX8_begin cX8_begin 2 (some .int), Cond.methodLink RX8 119 yX8_isLetter, Cond.static yX8_isLetter, Cond.code yX8_isLetter cX8_isLetter 1 (some .boolean), Cond.constantLong RX8 115 (65), Cond.constantLong RX8 117 (70), Cond.methodLink RX8 122 yX8_close]
def wsL_law_r11 : List Cond := [Cond.instanceMethod yX8_close, Cond.selects RX8 yX8_close yX8_close, Cond.code yX8_close cX8_close 3 (some .int), Cond.methodLink RX8 134 yX8_deed, Cond.static yX8_deed, Cond.code yX8_deed cX8_deed 1 (some .int), Cond.methodLink RX8 137 yX8_number, Cond.instanceMethod yX8_number, Cond.selects RX8 yX8_number yX8_number, Cond.code yX8_number cX8_number 4 (some .int), Cond.constantLong RX8 126 (49), Cond.constantLong RX8 128 (57), Cond.methodLink RX8 141 yX8_forWhom, Cond.instanceMethod yX8_forWhom, Cond.selects RX8 yX8_forWhom yX8_forWhom, Cond.code yX8_forWhom cX8_forWhom 2 (some .int), Cond.methodLink RL 45 yX7_judge, Cond.instanceMethod yX7_judge, Cond.selects RX7 yX7_judge yX7_judge, Cond.code yX7_judge cX7_judge 3 (some .int), Cond.fieldLink RX7 106 "AbbeyNotes$Trial" "ended" "I", Cond.fieldLink RX7 109 "AbbeyNotes$Trial" "why" "I", Cond.fieldLink RX7 112 "AbbeyNotes$Trial" "acts" "I", Cond.methodLink RX7 102 yX7_tryMonths]
def wsL_law_r12 : List Cond := [Cond.instanceMethod yX7_tryMonths, Cond.selects RX7 yX7_tryMonths yX7_tryMonths, Cond.code yX7_tryMonths cX7_tryMonths 2 (some .int), Cond.methodLink RX7 153 yX5_follow, Cond.instanceMethod yX5_follow, Cond.selects RX5 yX5_follow yX5_follow, Cond.code yX5_follow cX5_follow 5 none, Cond.fieldLink RX5 22 "AbbeyNotes$Trial" "why" "I", Cond.fieldLink RX5 26 "AbbeyNotes$Trial" "ended" "I", Cond.fieldLink RX5 29 "AbbeyNotes$Trial" "fellIn" "I", Cond.fieldLink RX5 32 "AbbeyNotes$Trial" "acts" "I", Cond.fieldLink RX5 35 "AbbeyNotes$Pad" "size" "I", Cond.fieldLink RX5 44 "AbbeyNotes$Trial" "kind" "I", Cond.fieldLink RX5 47 "AbbeyNotes$Trial" "who" "I", Cond.fieldLink RX5 50 "AbbeyNotes$Trial" "number" "I", Cond.fieldLink RX5 61 "AbbeyNotes$Trial" "length" "I", Cond.methodLink RX5 18 yX2_copyFrom, Cond.instanceMethod yX2_copyFrom, Cond.selects RX2 yX2_copyFrom yX2_copyFrom, Cond.code yX2_copyFrom cX2_copyFrom 3 none, Cond.methodLink RX2 29 arraycopyName, Cond.native arraycopyName, Cond.static arraycopyName, Cond.initialized "java/lang/System"]
def wsL_law_r13 : List Cond := [Cond.fieldLink RX2 35 "AbbeyNotes$Realm" "statePaper" "I", Cond.fieldLink RX2 39 "AbbeyNotes$Realm" "forged" "I", Cond.fieldLink RX2 42 "AbbeyNotes$Realm" "burnt" "I", Cond.fieldLink RX2 45 "AbbeyNotes$Realm" "months" "I", Cond.methodLink RX5 40 yX5_read, Cond.instanceMethod yX5_read, Cond.selects RX5 yX5_read yX5_read, Cond.code yX5_read cX5_read 5 none, Cond.methodLink RX5 68 yX1_signAt, Cond.instanceMethod yX1_signAt, Cond.selects RX1 yX1_signAt yX1_signAt, Cond.code yX1_signAt cX1_signAt 2 (some .int), Cond.methodLink RX5 72 yX5_kindOf, Cond.static yX5_kindOf, Cond.code yX5_kindOf cX5_kindOf 2 (some .int), Cond.methodLink RX5 76 yX5_kindOfDeed, Cond.static yX5_kindOfDeed, Cond.code yX5_kindOfDeed cX5_kindOfDeed 1 (some .int), Cond.methodLink RX5 53 yX2_act, Cond.instanceMethod yX2_act, Cond.selects RX2 yX2_act yX2_act, Cond.code yX2_act cX2_act 4 (some .int), Cond.methodLink RX2 66 yX2_printed, Cond.instanceMethod yX2_printed]
def wsL_law_r14 : List Cond := [Cond.selects RX2 yX2_printed yX2_printed, Cond.code yX2_printed cX2_printed 2 (some .int), Cond.constant RX2 87 (99999), Cond.methodLink RX2 69 yX2_paidByState, Cond.instanceMethod yX2_paidByState, Cond.selects RX2 yX2_paidByState yX2_paidByState, Cond.code yX2_paidByState cX2_paidByState 3 (some .int), Cond.methodLink RX2 72 yX2_bought, Cond.instanceMethod yX2_bought, Cond.selects RX2 yX2_bought yX2_bought, Cond.code yX2_bought cX2_bought 3 (some .int), Cond.methodLink RX2 75 yX2_exchanged, Cond.instanceMethod yX2_exchanged, Cond.selects RX2 yX2_exchanged yX2_exchanged, Cond.code yX2_exchanged cX2_exchanged 4 (some .int), Cond.methodLink RX2 88 yX2_rate, Cond.instanceMethod yX2_rate, Cond.selects RX2 yX2_rate yX2_rate, Cond.code yX2_rate cX2_rate 1 (some .int), Cond.methodLink RX2 48 yX2_land, Cond.instanceMethod yX2_land, Cond.selects RX2 yX2_land yX2_land, Cond.code yX2_land cX2_land 3 (some .int), Cond.methodLink RX2 52 yX2_notes]
def wsL_law_r15 : List Cond := [Cond.instanceMethod yX2_notes, Cond.selects RX2 yX2_notes yX2_notes, Cond.code yX2_notes cX2_notes 3 (some .int), Cond.static yX7_rateOf, Cond.code yX7_rateOf cX7_rateOf 2 (some .int), Cond.methodLink RX7 157 Lib.Math.min.name, Cond.static Lib.Math.min.name, Cond.initialized "java/lang/Math", Cond.code Lib.Math.min.name Lib.Math.min.code 2 (some .int), Cond.methodLink RX2 78 yX2_settled, Cond.instanceMethod yX2_settled, Cond.selects RX2 yX2_settled yX2_settled, Cond.code yX2_settled cX2_settled 4 (some .int), Cond.methodLink RX2 91 Lib.Math.min.name, Cond.methodLink RX2 81 yX2_forgedFor, Cond.instanceMethod yX2_forgedFor, Cond.selects RX2 yX2_forgedFor yX2_forgedFor, Cond.code yX2_forgedFor cX2_forgedFor 3 (some .int), Cond.methodLink RX2 84 yX2_monthEnded, Cond.instanceMethod yX2_monthEnded, Cond.selects RX2 yX2_monthEnded yX2_monthEnded, Cond.code yX2_monthEnded cX2_monthEnded 1 (some .int), Cond.methodLink RX5 57 yX5_endMonth, Cond.instanceMethod yX5_endMonth]
def wsL_law_r16 : List Cond := [Cond.selects RX5 yX5_endMonth yX5_endMonth, Cond.code yX5_endMonth cX5_endMonth 2 none, Cond.methodLink RX5 64 yX2_rate, Cond.methodLink RL 48 yX8_judge, Cond.instanceMethod yX8_judge, Cond.selects RX8 yX8_judge yX8_judge, Cond.code yX8_judge cX8_judge 3 (some .int), Cond.constantLong RX8 221 (2), Cond.fieldLink RX8 196 "AbbeyNotesModel" "badAct" "I", Cond.fieldLink RX8 199 "AbbeyNotesModel" "badWhy" "I", Cond.fieldLink RX8 202 "AbbeyNotesModel" "endedMany" "I", Cond.methodLink RX8 223 yX8_refusal, Cond.instanceMethod yX8_refusal, Cond.selects RX8 yX8_refusal yX8_refusal, Cond.code yX8_refusal cX8_refusal 1 (some .int), Cond.methodLink RX8 212 yX8_keepNow, Cond.instanceMethod yX8_keepNow, Cond.selects RX8 yX8_keepNow yX8_keepNow, Cond.code yX8_keepNow cX8_keepNow 2 none, Cond.fieldLink RX8 183 "AbbeyNotesModel" "burnt" "I", Cond.fieldLink RX8 180 "AbbeyNotesModel" "months" "I", Cond.methodLink RX8 215 yX8_fault, Cond.methodLink RX8 218 yX8_goMonths, Cond.instanceMethod yX8_goMonths]
def wsL_law_r17 : List Cond := [Cond.selects RX8 yX8_goMonths yX8_goMonths, Cond.code yX8_goMonths cX8_goMonths 3 none, Cond.methodLink RX8 205 yX8_whyNot, Cond.instanceMethod yX8_whyNot, Cond.selects RX8 yX8_whyNot yX8_whyNot, Cond.code yX8_whyNot cX8_whyNot 4 (some .int), Cond.constant RX8 170 (99999), Cond.methodLink RX8 174 yX8_whyNotChange, Cond.instanceMethod yX8_whyNotChange, Cond.selects RX8 yX8_whyNotChange yX8_whyNotChange, Cond.code yX8_whyNotChange cX8_whyNotChange 3 (some .int), Cond.methodLink RX8 167 yX8_worth, Cond.instanceMethod yX8_worth, Cond.selects RX8 yX8_worth yX8_worth, Cond.code yX8_worth cX8_worth 2 (some .int), Cond.methodLink RX8 164 yX8_rate, Cond.instanceMethod yX8_rate, Cond.selects RX8 yX8_rate yX8_rate, Cond.code yX8_rate cX8_rate 1 (some .int), Cond.methodLink RX8 153 yX8_land, Cond.instanceMethod yX8_land, Cond.selects RX8 yX8_land yX8_land, Cond.code yX8_land cX8_land 3 (some .int), Cond.methodLink RX8 157 yX8_notes]
def wsL_law_r18 : List Cond := [Cond.instanceMethod yX8_notes, Cond.selects RX8 yX8_notes yX8_notes, Cond.code yX8_notes cX8_notes 3 (some .int), Cond.methodLink RX8 160 yX8_rateOf, Cond.static yX8_rateOf, Cond.code yX8_rateOf cX8_rateOf 5 (some .int), Cond.constantLong RX8 151 (100), Cond.methodLink RX8 177 yX8_whyNotPay, Cond.instanceMethod yX8_whyNotPay, Cond.selects RX8 yX8_whyNotPay yX8_whyNotPay, Cond.code yX8_whyNotPay cX8_whyNotPay 4 (some .int), Cond.methodLink RX8 171 yX8_payment, Cond.instanceMethod yX8_payment, Cond.selects RX8 yX8_payment yX8_payment, Cond.code yX8_payment cX8_payment 4 (some .int), Cond.methodLink RX8 208 yX8_happen, Cond.instanceMethod yX8_happen, Cond.selects RX8 yX8_happen yX8_happen, Cond.code yX8_happen cX8_happen 4 none, Cond.methodLink RX8 186 yX8_buy, Cond.instanceMethod yX8_buy, Cond.selects RX8 yX8_buy yX8_buy, Cond.code yX8_buy cX8_buy 3 none, Cond.methodLink RX8 190 yX8_swap]
def wsL_law_r19 : List Cond := [Cond.instanceMethod yX8_swap, Cond.selects RX8 yX8_swap yX8_swap, Cond.code yX8_swap cX8_swap 3 none, Cond.methodLink RX8 193 yX8_pay, Cond.instanceMethod yX8_pay, Cond.selects RX8 yX8_pay yX8_pay, Cond.code yX8_pay cX8_pay 4 none, Cond.methodLink RX8 226 yX8_back, Cond.instanceMethod yX8_back, Cond.selects RX8 yX8_back yX8_back, Cond.code yX8_back cX8_back 3 (some .int), Cond.methodLink RL 49 yX7_behind, Cond.instanceMethod yX7_behind, Cond.selects RX7 yX7_behind yX7_behind, Cond.code yX7_behind cX7_behind 4 (some .int), Cond.fieldLink RX7 115 "AbbeyNotes$Trial" "realm" "LAbbeyNotes$Realm;", Cond.methodLink RX7 118 yX2_ofOne, Cond.instanceMethod yX2_ofOne, Cond.selects RX2 yX2_ofOne yX2_ofOne, Cond.code yX2_ofOne cX2_ofOne 3 (some .int), Cond.methodLink RX2 59 yX2_lotsOf, Cond.instanceMethod yX2_lotsOf, Cond.selects RX2 yX2_lotsOf yX2_lotsOf, Cond.code yX2_lotsOf cX2_lotsOf 4 (some .int)]
def wsL_law_r20 : List Cond := [Cond.methodLink RX2 63 yX2_owesInAll, Cond.instanceMethod yX2_owesInAll, Cond.selects RX2 yX2_owesInAll yX2_owesInAll, Cond.code yX2_owesInAll cX2_owesInAll 4 (some .int), Cond.methodLink RL 52 yX8_behind, Cond.instanceMethod yX8_behind, Cond.selects RX8 yX8_behind yX8_behind, Cond.code yX8_behind cX8_behind 4 (some .int), Cond.constantLong RX8 235 (3), Cond.methodLink RX8 237 yX8_ofOne, Cond.instanceMethod yX8_ofOne, Cond.selects RX8 yX8_ofOne yX8_ofOne, Cond.code yX8_ofOne cX8_ofOne 3 (some .int), Cond.methodLink RX8 229 yX8_lotsOf, Cond.instanceMethod yX8_lotsOf, Cond.selects RX8 yX8_lotsOf yX8_lotsOf, Cond.code yX8_lotsOf cX8_lotsOf 4 (some .int), Cond.methodLink RX8 232 yX8_owesInAll, Cond.instanceMethod yX8_owesInAll, Cond.selects RX8 yX8_owesInAll yX8_owesInAll, Cond.code yX8_owesInAll cX8_owesInAll 4 (some .int), Cond.methodLink RL 53 yX7_total, Cond.instanceMethod yX7_total, Cond.selects RX7 yX7_total yX7_total]
def wsL_law_r21 : List Cond := [Cond.code yX7_total cX7_total 3 (some .int), Cond.fieldLink RX7 131 "AbbeyNotes$Realm" "burnt" "I", Cond.fieldLink RX7 134 "AbbeyNotes$Realm" "months" "I", Cond.methodLink RX7 122 yX2_notes, Cond.methodLink RX7 125 yX2_land, Cond.methodLink RX7 128 yX2_rate, Cond.methodLink RL 56 yX8_total, Cond.instanceMethod yX8_total, Cond.selects RX8 yX8_total yX8_total, Cond.code yX8_total cX8_total 3 (some .int), Cond.methodLink RX8 240 yX8_ofAll, Cond.instanceMethod yX8_ofAll, Cond.selects RX8 yX8_ofAll yX8_ofAll, Cond.code yX8_ofAll cX8_ofAll 2 (some .int), Cond.methodLink RL 57 yX7_fell, Cond.instanceMethod yX7_fell, Cond.selects RX7 yX7_fell yX7_fell, Cond.code yX7_fell cX7_fell 3 (some .int), Cond.fieldLink RX7 137 "AbbeyNotes$Trial" "fellIn" "I", Cond.methodLink RL 60 yX8_fell, Cond.instanceMethod yX8_fell, Cond.selects RX8 yX8_fell yX8_fell, Cond.code yX8_fell cX8_fell 4 (some .int), Cond.methodLink RL 61 yX7_done]
def wsL_law_r22 : List Cond := [Cond.instanceMethod yX7_done, Cond.selects RX7 yX7_done yX7_done, Cond.code yX7_done cX7_done 2 (some .int), Cond.methodLink RX7 140 yX2_copyFrom, Cond.methodLink RL 64 yX8_done, Cond.instanceMethod yX8_done, Cond.selects RX8 yX8_done yX8_done, Cond.code yX8_done cX8_done 2 (some .int), Cond.methodLink RL 65 yX7_struck, Cond.instanceMethod yX7_struck, Cond.selects RX7 yX7_struck yX7_struck, Cond.code yX7_struck cX7_struck 2 (some .int), Cond.methodLink RX7 144 yX3_weigh, Cond.instanceMethod yX3_weigh, Cond.selects RX3 yX3_weigh yX3_weigh, Cond.code yX3_weigh cX3_weigh 4 none, Cond.fieldLink RX3 24 "AbbeyNotes$Realm" "owes" "[[I", Cond.methodLink RX3 18 yX2_owesInAll, Cond.methodLink RX7 147 yX3_fewestPayments, Cond.instanceMethod yX3_fewestPayments, Cond.selects RX3 yX3_fewestPayments yX3_fewestPayments, Cond.code yX3_fewestPayments cX3_fewestPayments 5 (some .int), Cond.methodLink RX3 28 Lib.Math.max.name, Cond.static Lib.Math.max.name]
def wsL_law_r23 : List Cond := [Cond.code Lib.Math.max.name Lib.Math.max.code 2 (some .int), Cond.methodLink RX3 34 yX3_dueTo, Cond.instanceMethod yX3_dueTo, Cond.selects RX3 yX3_dueTo yX3_dueTo, Cond.code yX3_dueTo cX3_dueTo 4 (some .int), Cond.methodLink RX7 150 yX3_leastPaid, Cond.instanceMethod yX3_leastPaid, Cond.selects RX3 yX3_leastPaid yX3_leastPaid, Cond.code yX3_leastPaid cX3_leastPaid 3 (some .int), Cond.methodLink RL 68 yX8_struck, Cond.instanceMethod yX8_struck, Cond.selects RX8 yX8_struck yX8_struck, Cond.code yX8_struck cX8_struck 5 (some .int), Cond.methodLink RX8 246 yX8_mostEven, Cond.instanceMethod yX8_mostEven, Cond.selects RX8 yX8_mostEven yX8_mostEven, Cond.code yX8_mostEven cX8_mostEven 6 (some .int), Cond.methodLink RX8 243 yX8_netOf, Cond.instanceMethod yX8_netOf, Cond.selects RX8 yX8_netOf yX8_netOf, Cond.code yX8_netOf cX8_netOf 4 (some .int), Cond.methodLink RL 69 yX7_prints, Cond.instanceMethod yX7_prints, Cond.selects RX7 yX7_prints yX7_prints]
def wsL_law_r24 : List Cond := [Cond.code yX7_prints cX7_prints 4 (some .int), Cond.methodLink RL 72 yX8_prints, Cond.instanceMethod yX8_prints, Cond.selects RX8 yX8_prints yX8_prints, Cond.code yX8_prints cX8_prints 4 (some .int), Cond.methodLink RL 73 yX7_buys, Cond.instanceMethod yX7_buys, Cond.selects RX7 yX7_buys yX7_buys, Cond.code yX7_buys cX7_buys 8 (some .int), Cond.methodLink RX7 162 yX2_lotsOf, Cond.methodLink RX7 165 yX2_priceOf, Cond.instanceMethod yX2_priceOf, Cond.selects RX2 yX2_priceOf yX2_priceOf, Cond.code yX2_priceOf cX2_priceOf 4 (some .int), Cond.methodLink RL 76 yX8_buys, Cond.instanceMethod yX8_buys, Cond.selects RX8 yX8_buys yX8_buys, Cond.code yX8_buys cX8_buys 7 (some .int), Cond.methodLink RX8 249 yX8_pricesOf, Cond.instanceMethod yX8_pricesOf, Cond.selects RX8 yX8_pricesOf yX8_pricesOf, Cond.code yX8_pricesOf cX8_pricesOf 4 (some .int), Cond.methodLink RL 77 yX7_runs, Cond.instanceMethod yX7_runs]
def wsL_law_r25 : List Cond := [Cond.selects RX7 yX7_runs yX7_runs, Cond.code yX7_runs cX7_runs 8 (some .int), Cond.methodLink RX7 168 yX7_rateOf, Cond.methodLink RL 80 yX8_runs, Cond.instanceMethod yX8_runs, Cond.selects RX8 yX8_runs yX8_runs, Cond.code yX8_runs cX8_runs 8 (some .int), Cond.constantLong RX8 252 (99), Cond.methodLink RL 81 yX7_wages, Cond.instanceMethod yX7_wages, Cond.selects RX7 yX7_wages yX7_wages, Cond.code yX7_wages cX7_wages 8 (some .int), Cond.constant RX7 171 (999999999), Cond.methodLink RX7 172 Lib.Math.max.name, Cond.methodLink RL 84 yX8_wages, Cond.instanceMethod yX8_wages, Cond.selects RX8 yX8_wages yX8_wages, Cond.code yX8_wages cX8_wages 7 (some .int), Cond.constantLong RX8 254 (999999999), Cond.constantLong RX8 256 (8), Cond.methodLink RL 85 yX7_change, Cond.instanceMethod yX7_change, Cond.selects RX7 yX7_change yX7_change, Cond.code yX7_change cX7_change 10 (some .long)]
def wsL_law_r26 : List Cond := [Cond.constantLong RX7 175 (-1000000000000000002), Cond.constantLong RX7 177 (10), Cond.methodLink RX7 179 yX6_scaledMean, Cond.instanceMethod yX6_scaledMean, Cond.selects RX6 yX6_scaledMean yX6_scaledMean, Cond.code yX6_scaledMean cX6_scaledMean 12 (some .long), Cond.constantLong RX6 16 (10), Cond.methodLink RX6 18 Lib.Math.max.name, Cond.methodLink RX6 24 Lib.MathLoose.max_long.x, Cond.static Lib.MathLoose.max_long.x, Cond.code Lib.MathLoose.max_long.x Lib.MathLoose.max_long.code 4 (some .long), Cond.methodLink RX7 183 yX7_lowest, Cond.static yX7_lowest, Cond.code yX7_lowest cX7_lowest 12 (some .long), Cond.methodLink RL 89 yX8_change, Cond.instanceMethod yX8_change, Cond.selects RX8 yX8_change yX8_change, Cond.code yX8_change cX8_change 13 (some .long), Cond.constantLong RX8 258 (60), Cond.constantLong RX8 260 (10), Cond.constantLong RX8 262 (-1000000000000000002), Cond.methodLink RX8 264 yX8_lowest, Cond.static yX8_lowest, Cond.code yX8_lowest cX8_lowest 11 (some .long)]
def wsL_law_r27 : List Cond := [Cond.methodLink RL 90 yX7_sample, Cond.instanceMethod yX7_sample, Cond.selects RX7 yX7_sample yX7_sample, Cond.code yX7_sample cX7_sample 6 (some .long), Cond.methodLink RX7 187 yX7_choices, Cond.static yX7_choices, Cond.code yX7_choices cX7_choices 5 (some .long), Cond.methodLink RL 93 yX8_sample, Cond.instanceMethod yX8_sample, Cond.selects RX8 yX8_sample yX8_sample, Cond.code yX8_sample cX8_sample 6 (some .long), Cond.constantLong RX8 268 (30), Cond.methodLink RX8 270 yX8_chooseOf, Cond.instanceMethod yX8_chooseOf, Cond.selects RX8 yX8_chooseOf yX8_chooseOf, Cond.code yX8_chooseOf cX8_chooseOf 5 (some .long), Cond.methodLink RL 94 yX7_seen, Cond.instanceMethod yX7_seen, Cond.selects RX7 yX7_seen yX7_seen, Cond.code yX7_seen cX7_seen 4 (some .int), Cond.fieldLink RX7 191 "AbbeyNotes$Sights" "size" "I", Cond.methodLink RX7 192 yX4_add, Cond.instanceMethod yX4_add, Cond.selects RX4 yX4_add yX4_add]
def wsL_law_r28 : List Cond := [Cond.code yX4_add cX4_add 4 none, Cond.fieldLink RX4 24 "AbbeyNotes$Sights" "size" "I", Cond.methodLink RL 97 yX8_seen, Cond.instanceMethod yX8_seen, Cond.selects RX8 yX8_seen yX8_seen, Cond.code yX8_seen cX8_seen 4 (some .int), Cond.constantLong RX8 274 (255), Cond.fieldLink RX8 276 "AbbeyNotesModel" "sights" "I", Cond.methodLink RL 98 yX7_forget, Cond.instanceMethod yX7_forget, Cond.selects RX7 yX7_forget yX7_forget, Cond.code yX7_forget cX7_forget 2 (some .int), Cond.methodLink RL 101 yX8_forget, Cond.instanceMethod yX8_forget, Cond.selects RX8 yX8_forget yX8_forget, Cond.code yX8_forget cX8_forget 2 (some .int), Cond.methodLink RL 102 yX7_clerks, Cond.instanceMethod yX7_clerks, Cond.selects RX7 yX7_clerks yX7_clerks, Cond.code yX7_clerks cX7_clerks 5 (some .int), Cond.methodLink RX7 195 yX4_fit, Cond.instanceMethod yX4_fit, Cond.selects RX4 yX4_fit yX4_fit, Cond.code yX4_fit cX4_fit 5 (some .boolean)]
def wsL_law_r29 : List Cond := [Cond.methodLink RX4 34 yJ6_bitCount_0f7a4, Cond.static yJ6_bitCount_0f7a4, Cond.initialized RJ6, Cond.code yJ6_bitCount_0f7a4 cJ6_bitCount_0f7a4 1 (some .int), Cond.constant RJ6 265 (1431655765), Cond.constant RJ6 266 (858993459), Cond.constant RJ6 267 (252645135), Cond.methodLink RL 105 yX8_clerks, Cond.instanceMethod yX8_clerks, Cond.selects RX8 yX8_clerks yX8_clerks, Cond.code yX8_clerks cX8_clerks 5 (some .int), Cond.methodLink RX8 282 yX8_fits, Cond.instanceMethod yX8_fits, Cond.selects RX8 yX8_fits yX8_fits, Cond.code yX8_fits cX8_fits 6 (some .boolean), Cond.methodLink RX8 279 yX8_bitsOf, Cond.static yX8_bitsOf, Cond.code yX8_bitsOf cX8_bitsOf 3 (some .int), Cond.methodLink RL 106 yX7_count, Cond.instanceMethod yX7_count, Cond.selects RX7 yX7_count yX7_count, Cond.code yX7_count cX7_count 6 (some .int), Cond.methodLink RX7 199 yX4_tally, Cond.instanceMethod yX4_tally]
def wsL_law_r30 : List Cond := [Cond.selects RX4 yX4_tally yX4_tally, Cond.code yX4_tally cX4_tally 5 (some .int), Cond.methodLink RX4 40 yX4_fit, Cond.methodLink RX7 202 yX4_mostLeft, Cond.instanceMethod yX4_mostLeft, Cond.selects RX4 yX4_mostLeft yX4_mostLeft, Cond.code yX4_mostLeft cX4_mostLeft 3 (some .int), Cond.methodLink RX4 44 Lib.Math.max.name, Cond.methodLink RL 109 yX8_count, Cond.instanceMethod yX8_count, Cond.selects RX8 yX8_count yX8_count, Cond.code yX8_count cX8_count 7 (some .int), Cond.methodLink RX8 286 yX8_mostLeft, Cond.instanceMethod yX8_mostLeft, Cond.selects RX8 yX8_mostLeft yX8_mostLeft, Cond.code yX8_mostLeft cX8_mostLeft 7 (some .int), Cond.methodLink RL 110 yX7_year, Cond.instanceMethod yX7_year, Cond.selects RX7 yX7_year yX7_year, Cond.code yX7_year cX7_year 8 (some .int), Cond.constant RX7 205 (65537), Cond.methodLink RX7 206 yX7_drawnNumber, Cond.static yX7_drawnNumber, Cond.code yX7_drawnNumber cX7_drawnNumber 2 (some .int)]
def wsL_law_r31 : List Cond := [Cond.methodLink RX7 209 yX2_act, Cond.methodLink RX7 213 yJ6_bitCount_0f7a4, Cond.methodLink RL 113 yX8_year, Cond.instanceMethod yX8_year, Cond.selects RX8 yX8_year yX8_year, Cond.code yX8_year cX8_year 9 (some .int), Cond.constantLong RX8 289 (75), Cond.constantLong RX8 291 (74), Cond.constantLong RX8 293 (65537), Cond.methodLink RX8 295 yX8_actBy, Cond.static yX8_actBy, Cond.code yX8_actBy cX8_actBy 1 (some .int), Cond.methodLink RX8 298 yX8_muchBy, Cond.static yX8_muchBy, Cond.code yX8_muchBy cX8_muchBy 2 (some .int), Cond.methodLink RL 114 yX7_image, Cond.instanceMethod yX7_image, Cond.selects RX7 yX7_image yX7_image, Cond.code yX7_image cX7_image 2 (some .int), Cond.fieldLink RX7 218 "AbbeyNotes$Image" "realm" "LAbbeyNotes$Realm;", Cond.fieldLink RX7 219 "AbbeyNotes$Image" "sights" "LAbbeyNotes$Sights;", Cond.fieldLink RX7 223 "AbbeyNotes$Image" "kept" "Z", Cond.methodLink RX7 220 yX4_copyFrom, Cond.instanceMethod yX4_copyFrom]
def wsL_law_r32 : List Cond := [Cond.selects RX4 yX4_copyFrom yX4_copyFrom, Cond.code yX4_copyFrom cX4_copyFrom 2 none, Cond.methodLink RX4 28 arraycopyName, Cond.methodLink RL 117 yX8_image, Cond.instanceMethod yX8_image, Cond.selects RX8 yX8_image yX8_image, Cond.code yX8_image cX8_image 2 (some .int), Cond.fieldLink RX8 305 "AbbeyNotesModel" "keptAt" "I", Cond.fieldLink RX8 301 "AbbeyNotesModel" "isWriting" "Z", Cond.methodLink RX8 315 yX8_passAll, Cond.instanceMethod yX8_passAll, Cond.selects RX8 yX8_passAll yX8_passAll, Cond.code yX8_passAll cX8_passAll 1 none, Cond.methodLink RX8 308 yX8_pass, Cond.instanceMethod yX8_pass, Cond.selects RX8 yX8_pass yX8_pass, Cond.code yX8_pass cX8_pass 3 (some .int), Cond.methodLink RX8 311 yX8_passRow, Cond.instanceMethod yX8_passRow, Cond.selects RX8 yX8_passRow yX8_passRow, Cond.code yX8_passRow cX8_passRow 4 none, Cond.methodLink RL 118 yX7_restore, Cond.instanceMethod yX7_restore, Cond.selects RX7 yX7_restore yX7_restore]
def wsL_law_r33 : List Cond := [Cond.code yX7_restore cX7_restore 2 (some .int), Cond.methodLink RL 121 yX8_restore, Cond.instanceMethod yX8_restore, Cond.selects RX8 yX8_restore yX8_restore, Cond.code yX8_restore cX8_restore 2 (some .int), Cond.methodLink RL 122 yX7_told, Cond.instanceMethod yX7_told, Cond.selects RX7 yX7_told yX7_told, Cond.code yX7_told cX7_told 3 (some .int), Cond.methodLink RX7 227 yX7_toldOfAll, Cond.instanceMethod yX7_toldOfAll, Cond.selects RX7 yX7_toldOfAll yX7_toldOfAll, Cond.code yX7_toldOfAll cX7_toldOfAll 2 (some .int), Cond.methodLink RX7 230 yX7_toldOfOne, Cond.instanceMethod yX7_toldOfOne, Cond.selects RX7 yX7_toldOfOne yX7_toldOfOne, Cond.code yX7_toldOfOne cX7_toldOfOne 3 (some .int), Cond.methodLink RX7 233 yX7_toldOfLot, Cond.instanceMethod yX7_toldOfLot, Cond.selects RX7 yX7_toldOfLot yX7_toldOfLot, Cond.code yX7_toldOfLot cX7_toldOfLot 3 (some .int), Cond.methodLink RX7 236 yX7_toldOfDebt, Cond.instanceMethod yX7_toldOfDebt, Cond.selects RX7 yX7_toldOfDebt yX7_toldOfDebt]
def wsL_law_r34 : List Cond := [Cond.code yX7_toldOfDebt cX7_toldOfDebt 3 (some .int), Cond.methodLink RL 125 yX8_told, Cond.instanceMethod yX8_told, Cond.selects RX8 yX8_told yX8_told, Cond.code yX8_told cX8_told 3 (some .int), Cond.constantLong RX8 318 (200), Cond.constantLong RX8 320 (259), Cond.constantLong RX8 322 (179), Cond.constantLong RX8 324 (69), Cond.methodLink RX8 326 yX8_toldOfOne, Cond.instanceMethod yX8_toldOfOne, Cond.selects RX8 yX8_toldOfOne yX8_toldOfOne, Cond.code yX8_toldOfOne cX8_toldOfOne 3 (some .int), Cond.methodLink RX8 329 yX8_toldOfAll, Cond.instanceMethod yX8_toldOfAll, Cond.selects RX8 yX8_toldOfAll yX8_toldOfAll, Cond.code yX8_toldOfAll cX8_toldOfAll 2 (some .int)]
def wsL_law : List Cond := (wsL_law_r1 ++ (wsL_law_r2 ++ (wsL_law_r3 ++ (wsL_law_r4 ++ (wsL_law_r5 ++ (wsL_law_r6 ++ (wsL_law_r7 ++ (wsL_law_r8 ++ (wsL_law_r9 ++ (wsL_law_r10 ++ (wsL_law_r11 ++ (wsL_law_r12 ++ (wsL_law_r13 ++ (wsL_law_r14 ++ (wsL_law_r15 ++ (wsL_law_r16 ++ (wsL_law_r17 ++ (wsL_law_r18 ++ (wsL_law_r19 ++ (wsL_law_r20 ++ (wsL_law_r21 ++ (wsL_law_r22 ++ (wsL_law_r23 ++ (wsL_law_r24 ++ (wsL_law_r25 ++ (wsL_law_r26 ++ (wsL_law_r27 ++ (wsL_law_r28 ++ (wsL_law_r29 ++ (wsL_law_r30 ++ (wsL_law_r31 ++ (wsL_law_r32 ++ (wsL_law_r33 ++ wsL_law_r34))))))))))))))))))))))))))))))))) ++ wsX70 ++ wsX80 ++ wsX20 ++ wsX40 ++ wsX10 ++ wsX50 ++ wsX30 ++ wsX60 ++ wsX00 ++ ([] : List Cond)
set_option maxRecDepth 20000 in
theorem wsT_1 : ∀ w ∈ wsL_law_r1, w ∈ lw_tbl := fun w h => (goodIn_r (big := lw_tbl) wsL_law_r1 [64, 65, 52, 603, 604, 60, 66, 67, 68, 69, 70, 71, 72, 73, 53, 247, 119, 120, 54, 248, 142, 143, 55, 249] rfl (by decide +kernel) w h).1
theorem wsG_1 : wsL_law_r1.all goodWord = true := by decide +kernel
set_option maxRecDepth 20000 in
theorem wsT_2 : ∀ w ∈ wsL_law_r2, w ∈ lw_tbl := fun w h => (goodIn_r (big := lw_tbl) wsL_law_r2 [157, 158, 56, 250, 198, 199, 57, 251, 211, 212, 58, 252, 224, 253, 226, 59, 74, 75, 76, 77, 118, 80, 82, 78] rfl (by decide +kernel) w h).1
theorem wsG_2 : wsL_law_r2.all goodWord = true := by decide +kernel
set_option maxRecDepth 20000 in
theorem wsT_3 : ∀ w ∈ wsL_law_r3, w ∈ lw_tbl := fun w h => (goodIn_r (big := lw_tbl) wsL_law_r3 [84, 87, 89, 122, 123, 124, 125, 126, 127, 128, 145, 146, 147, 148, 160, 161, 162, 163, 165, 164, 201, 202, 203, 204] rfl (by decide +kernel) w h).1
theorem wsG_3 : wsL_law_r3.all goodWord = true := by decide +kernel
set_option maxRecDepth 20000 in
theorem wsT_4 : ∀ w ∈ wsL_law_r4, w ∈ lw_tbl := fun w h => (goodIn_r (big := lw_tbl) wsL_law_r4 [205, 214, 215, 216, 217, 223, 219, 228, 229, 230, 231, 235, 233, 237, 232, 605, 606, 607, 608, 609, 610, 611, 612, 613] rfl (by decide +kernel) w h).1
theorem wsG_4 : wsL_law_r4.all goodWord = true := by decide +kernel
set_option maxRecDepth 20000 in
theorem wsT_5 : ∀ w ∈ wsL_law_r5, w ∈ lw_tbl := fun w h => (goodIn_r (big := lw_tbl) wsL_law_r5 [618, 619, 620, 622, 624, 625, 626, 628, 632, 633, 634, 635, 636, 637, 638, 639, 712, 640, 269, 270, 271, 272, 81, 83] rfl (by decide +kernel) w h).1
theorem wsG_5 : wsL_law_r5.all goodWord = true := by decide +kernel
set_option maxRecDepth 20000 in
theorem wsT_6 : ∀ w ∈ wsL_law_r6, w ∈ lw_tbl := fun w h => (goodIn_r (big := lw_tbl) wsL_law_r6 [273, 274, 275, 276, 277, 278, 713, 714, 715, 716, 724, 717, 718, 719, 720, 721, 722, 723, 279, 280, 281, 282, 86, 725] rfl (by decide +kernel) w h).1
theorem wsG_6 : wsL_law_r6.all goodWord = true := by decide +kernel
set_option maxRecDepth 20000 in
theorem wsT_7 : ∀ w ∈ wsL_law_r7, w ∈ lw_tbl := fun w h => (goodIn_r (big := lw_tbl) wsL_law_r7 [726, 727, 728, 729, 283, 284, 285, 286, 88, 90, 730, 731, 732, 733, 734, 735, 287, 288, 289, 290, 291, 92, 94, 736] rfl (by decide +kernel) w h).1
theorem wsG_7 : wsL_law_r7.all goodWord = true := by decide +kernel
set_option maxRecDepth 20000 in
theorem wsT_8 : ∀ w ∈ wsL_law_r8, w ∈ lw_tbl := fun w h => (goodIn_r (big := lw_tbl) wsL_law_r8 [737, 738, 739, 740, 614, 615, 292, 293, 294, 295, 151, 296, 297, 298, 299, 149, 741, 742, 743, 744, 745, 746, 623, 300] rfl (by decide +kernel) w h).1
theorem wsG_8 : wsL_law_r8.all goodWord = true := by decide +kernel
set_option maxRecDepth 20000 in
theorem wsT_9 : ∀ w ∈ wsL_law_r9, w ∈ lw_tbl := fun w h => (goodIn_r (big := lw_tbl) wsL_law_r9 [301, 302, 303, 747, 748, 749, 750, 304, 305, 306, 307, 308, 309, 310, 311, 312, 313, 314, 315, 316, 317, 318, 319, 320] rfl (by decide +kernel) w h).1
theorem wsG_9 : wsL_law_r9.all goodWord = true := by decide +kernel
set_option maxRecDepth 20000 in
theorem wsT_10 : ∀ w ∈ wsL_law_r10, w ∈ lw_tbl := fun w h => (goodIn_r (big := lw_tbl) wsL_law_r10 [322, 323, 324, 751, 752, 753, 754, 627, 755, 757, 15, 758, 785, 786, 759, 761, 16, 762, 763, 764, 765, 766, 767, 768] rfl (by decide +kernel) w h).1
theorem wsG_10 : wsL_law_r10.all goodWord = true := by decide +kernel
set_option maxRecDepth 20000 in
theorem wsT_11 : ∀ w ∈ wsL_law_r11, w ∈ lw_tbl := fun w h => (goodIn_r (big := lw_tbl) wsL_law_r11 [770, 17, 771, 772, 773, 774, 775, 777, 18, 778, 779, 780, 781, 783, 19, 784, 325, 326, 327, 328, 172, 170, 168, 329] rfl (by decide +kernel) w h).1
theorem wsG_11 : wsL_law_r11.all goodWord = true := by decide +kernel
set_option maxRecDepth 20000 in
theorem wsT_12 : ∀ w ∈ wsL_law_r12, w ∈ lw_tbl := fun w h => (goodIn_r (big := lw_tbl) wsL_law_r12 [331, 0, 332, 333, 334, 335, 336, 169, 171, 173, 167, 150, 175, 176, 177, 178, 337, 338, 339, 340, 341, 343, 342, 61] rfl (by decide +kernel) w h).1
theorem wsG_12 : wsL_law_r12.all goodWord = true := by decide +kernel
set_option maxRecDepth 20000 in
theorem wsT_13 : ∀ w ∈ wsL_law_r13, w ∈ lw_tbl := fun w h => (goodIn_r (big := lw_tbl) wsL_law_r13 [91, 93, 95, 97, 344, 346, 1, 347, 348, 349, 350, 351, 352, 353, 354, 355, 356, 357, 358, 359, 360, 361, 362, 364] rfl (by decide +kernel) w h).1
theorem wsG_13 : wsL_law_r13.all goodWord = true := by decide +kernel
set_option maxRecDepth 20000 in
theorem wsT_14 : ∀ w ∈ wsL_law_r14, w ∈ lw_tbl := fun w h => (goodIn_r (big := lw_tbl) wsL_law_r14 [2, 365, 366, 367, 369, 3, 370, 371, 373, 4, 374, 375, 377, 5, 378, 379, 380, 381, 382, 383, 384, 385, 386, 387] rfl (by decide +kernel) w h).1
theorem wsG_14 : wsL_law_r14.all goodWord = true := by decide +kernel
set_option maxRecDepth 20000 in
theorem wsT_15 : ∀ w ∈ wsL_law_r15, w ∈ lw_tbl := fun w h => (goodIn_r (big := lw_tbl) wsL_law_r15 [388, 389, 390, 392, 393, 394, 395, 62, 396, 397, 399, 6, 400, 401, 402, 404, 7, 405, 406, 408, 8, 409, 410, 412] rfl (by decide +kernel) w h).1
theorem wsG_15 : wsL_law_r15.all goodWord = true := by decide +kernel
set_option maxRecDepth 20000 in
theorem wsT_16 : ∀ w ∈ wsL_law_r16, w ∈ lw_tbl := fun w h => (goodIn_r (big := lw_tbl) wsL_law_r16 [9, 413, 414, 787, 788, 789, 790, 791, 629, 630, 631, 792, 794, 20, 795, 796, 798, 21, 799, 616, 617, 800, 801, 803] rfl (by decide +kernel) w h).1
theorem wsG_16 : wsL_law_r16.all goodWord = true := by decide +kernel
set_option maxRecDepth 20000 in
theorem wsT_17 : ∀ w ∈ wsL_law_r17, w ∈ lw_tbl := fun w h => (goodIn_r (big := lw_tbl) wsL_law_r17 [22, 804, 805, 807, 23, 808, 809, 810, 812, 24, 813, 814, 816, 25, 817, 818, 820, 26, 821, 822, 824, 27, 825, 826] rfl (by decide +kernel) w h).1
theorem wsG_17 : wsL_law_r17.all goodWord = true := by decide +kernel
set_option maxRecDepth 20000 in
theorem wsT_18 : ∀ w ∈ wsL_law_r18, w ∈ lw_tbl := fun w h => (goodIn_r (big := lw_tbl) wsL_law_r18 [828, 28, 829, 830, 831, 832, 833, 834, 836, 29, 837, 838, 840, 30, 841, 842, 844, 31, 845, 846, 848, 32, 849, 850] rfl (by decide +kernel) w h).1
theorem wsG_18 : wsL_law_r18.all goodWord = true := by decide +kernel
set_option maxRecDepth 20000 in
theorem wsT_19 : ∀ w ∈ wsL_law_r19, w ∈ lw_tbl := fun w h => (goodIn_r (big := lw_tbl) wsL_law_r19 [852, 33, 853, 854, 856, 34, 857, 858, 860, 35, 861, 415, 416, 417, 418, 166, 419, 420, 421, 422, 423, 424, 425, 426] rfl (by decide +kernel) w h).1
theorem wsG_19 : wsL_law_r19.all goodWord = true := by decide +kernel
set_option maxRecDepth 20000 in
theorem wsT_20 : ∀ w ∈ wsL_law_r20, w ∈ lw_tbl := fun w h => (goodIn_r (big := lw_tbl) wsL_law_r20 [427, 428, 429, 430, 862, 863, 864, 865, 866, 867, 869, 36, 870, 871, 873, 37, 874, 875, 877, 38, 878, 431, 432, 433] rfl (by decide +kernel) w h).1
theorem wsG_20 : wsL_law_r20.all goodWord = true := by decide +kernel
set_option maxRecDepth 20000 in
theorem wsT_21 : ∀ w ∈ wsL_law_r21, w ∈ lw_tbl := fun w h => (goodIn_r (big := lw_tbl) wsL_law_r21 [434, 96, 98, 435, 436, 437, 879, 880, 881, 882, 883, 885, 39, 886, 438, 439, 440, 441, 174, 887, 888, 889, 890, 442] rfl (by decide +kernel) w h).1
theorem wsG_21 : wsL_law_r21.all goodWord = true := by decide +kernel
set_option maxRecDepth 20000 in
theorem wsT_22 : ∀ w ∈ wsL_law_r22, w ∈ lw_tbl := fun w h => (goodIn_r (big := lw_tbl) wsL_law_r22 [443, 444, 445, 446, 891, 892, 893, 894, 447, 448, 449, 450, 451, 452, 453, 454, 85, 455, 456, 457, 458, 459, 460, 461] rfl (by decide +kernel) w h).1
theorem wsG_22 : wsL_law_r22.all goodWord = true := by decide +kernel
set_option maxRecDepth 20000 in
theorem wsT_23 : ∀ w ∈ wsL_law_r23, w ∈ lw_tbl := fun w h => (goodIn_r (big := lw_tbl) wsL_law_r23 [462, 463, 465, 10, 466, 467, 468, 469, 470, 895, 896, 897, 898, 899, 901, 40, 902, 903, 905, 41, 906, 471, 472, 473] rfl (by decide +kernel) w h).1
theorem wsG_23 : wsL_law_r23.all goodWord = true := by decide +kernel
set_option maxRecDepth 20000 in
theorem wsT_24 : ∀ w ∈ wsL_law_r24, w ∈ lw_tbl := fun w h => (goodIn_r (big := lw_tbl) wsL_law_r24 [474, 907, 908, 909, 910, 475, 476, 477, 478, 479, 480, 481, 482, 483, 911, 912, 913, 914, 915, 917, 42, 918, 484, 485] rfl (by decide +kernel) w h).1
theorem wsG_24 : wsL_law_r24.all goodWord = true := by decide +kernel
set_option maxRecDepth 20000 in
theorem wsT_25 : ∀ w ∈ wsL_law_r25, w ∈ lw_tbl := fun w h => (goodIn_r (big := lw_tbl) wsL_law_r25 [486, 487, 488, 919, 920, 921, 922, 923, 489, 490, 491, 492, 493, 494, 924, 925, 926, 927, 928, 929, 495, 496, 497, 498] rfl (by decide +kernel) w h).1
theorem wsG_25 : wsL_law_r25.all goodWord = true := by decide +kernel
set_option maxRecDepth 20000 in
theorem wsT_26 : ∀ w ∈ wsL_law_r26, w ∈ lw_tbl := fun w h => (goodIn_r (big := lw_tbl) wsL_law_r26 [499, 500, 501, 502, 503, 504, 505, 506, 507, 508, 509, 510, 511, 512, 930, 931, 932, 933, 934, 935, 936, 937, 938, 939] rfl (by decide +kernel) w h).1
theorem wsG_26 : wsL_law_r26.all goodWord = true := by decide +kernel
set_option maxRecDepth 20000 in
theorem wsT_27 : ∀ w ∈ wsL_law_r27, w ∈ lw_tbl := fun w h => (goodIn_r (big := lw_tbl) wsL_law_r27 [513, 514, 515, 516, 517, 518, 519, 940, 941, 942, 943, 944, 945, 947, 43, 948, 520, 521, 522, 523, 130, 524, 525, 526] rfl (by decide +kernel) w h).1
theorem wsG_27 : wsL_law_r27.all goodWord = true := by decide +kernel
set_option maxRecDepth 20000 in
theorem wsT_28 : ∀ w ∈ wsL_law_r28, w ∈ lw_tbl := fun w h => (goodIn_r (big := lw_tbl) wsL_law_r28 [527, 129, 949, 950, 951, 952, 953, 621, 528, 529, 530, 531, 954, 955, 956, 957, 532, 533, 534, 535, 536, 537, 538, 539] rfl (by decide +kernel) w h).1
theorem wsG_28 : wsL_law_r28.all goodWord = true := by decide +kernel
set_option maxRecDepth 20000 in
theorem wsT_29 : ∀ w ∈ wsL_law_r29, w ∈ lw_tbl := fun w h => (goodIn_r (big := lw_tbl) wsL_law_r29 [540, 541, 63, 542, 543, 544, 545, 958, 959, 960, 961, 962, 964, 44, 965, 966, 967, 968, 546, 547, 548, 549, 550, 551] rfl (by decide +kernel) w h).1
theorem wsG_29 : wsL_law_r29.all goodWord = true := by decide +kernel
set_option maxRecDepth 20000 in
theorem wsT_30 : ∀ w ∈ wsL_law_r30, w ∈ lw_tbl := fun w h => (goodIn_r (big := lw_tbl) wsL_law_r30 [552, 553, 554, 555, 556, 557, 558, 559, 969, 970, 971, 972, 973, 975, 45, 976, 560, 561, 562, 563, 564, 565, 566, 567] rfl (by decide +kernel) w h).1
theorem wsG_30 : wsL_law_r30.all goodWord = true := by decide +kernel
set_option maxRecDepth 20000 in
theorem wsT_31 : ∀ w ∈ wsL_law_r31, w ∈ lw_tbl := fun w h => (goodIn_r (big := lw_tbl) wsL_law_r31 [568, 569, 977, 978, 979, 980, 981, 982, 983, 984, 985, 986, 987, 988, 989, 570, 571, 572, 573, 236, 238, 239, 574, 575] rfl (by decide +kernel) w h).1
theorem wsG_31 : wsL_law_r31.all goodWord = true := by decide +kernel
set_option maxRecDepth 20000 in
theorem wsT_32 : ∀ w ∈ wsL_law_r32, w ∈ lw_tbl := fun w h => (goodIn_r (big := lw_tbl) wsL_law_r32 [576, 577, 578, 990, 991, 992, 993, 641, 642, 994, 996, 46, 997, 998, 1000, 47, 1001, 1002, 1004, 48, 1005, 579, 580, 581] rfl (by decide +kernel) w h).1
theorem wsG_32 : wsL_law_r32.all goodWord = true := by decide +kernel
set_option maxRecDepth 20000 in
theorem wsT_33 : ∀ w ∈ wsL_law_r33, w ∈ lw_tbl := fun w h => (goodIn_r (big := lw_tbl) wsL_law_r33 [582, 1006, 1007, 1008, 1009, 583, 584, 585, 586, 587, 589, 11, 590, 591, 593, 12, 594, 595, 597, 13, 598, 599, 601, 14] rfl (by decide +kernel) w h).1
theorem wsG_33 : wsL_law_r33.all goodWord = true := by decide +kernel
set_option maxRecDepth 20000 in
theorem wsT_34 : ∀ w ∈ wsL_law_r34, w ∈ lw_tbl := fun w h => (goodIn_r (big := lw_tbl) wsL_law_r34 [602, 1010, 1011, 1012, 1013, 1014, 1015, 1016, 1017, 1018, 1020, 49, 1021, 1022, 1024, 50, 1025] rfl (by decide +kernel) w h).1
theorem wsG_34 : wsL_law_r34.all goodWord = true := by decide +kernel
theorem wsTX0 : ∀ w ∈ wsX00, w ∈ lw_tbl := by decide +kernel
theorem wsGX0 : wsX00.all goodWord = true := by decide +kernel
theorem wsTX1 : ∀ w ∈ wsX10, w ∈ lw_tbl := by decide +kernel
theorem wsGX1 : wsX10.all goodWord = true := by decide +kernel
theorem wsTX2 : ∀ w ∈ wsX20, w ∈ lw_tbl := by decide +kernel
theorem wsGX2 : wsX20.all goodWord = true := by decide +kernel
theorem wsTX3 : ∀ w ∈ wsX30, w ∈ lw_tbl := by decide +kernel
theorem wsGX3 : wsX30.all goodWord = true := by decide +kernel
theorem wsTX4 : ∀ w ∈ wsX40, w ∈ lw_tbl := by decide +kernel
theorem wsGX4 : wsX40.all goodWord = true := by decide +kernel
theorem wsTX5 : ∀ w ∈ wsX50, w ∈ lw_tbl := by decide +kernel
theorem wsGX5 : wsX50.all goodWord = true := by decide +kernel
theorem wsTX6 : ∀ w ∈ wsX60, w ∈ lw_tbl := by decide +kernel
theorem wsGX6 : wsX60.all goodWord = true := by decide +kernel
theorem wsTX7 : ∀ w ∈ wsX70, w ∈ lw_tbl := by decide +kernel
theorem wsGX7 : wsX70.all goodWord = true := by decide +kernel
theorem wsTX8 : ∀ w ∈ wsX80, w ∈ lw_tbl := by decide +kernel
theorem wsGX8 : wsX80.all goodWord = true := by decide +kernel
theorem wsL_law_in : ∀ w ∈ wsL_law, w ∈ lw_tbl := List.forall_mem_append.mpr ⟨List.forall_mem_append.mpr ⟨List.forall_mem_append.mpr ⟨List.forall_mem_append.mpr ⟨List.forall_mem_append.mpr ⟨List.forall_mem_append.mpr ⟨List.forall_mem_append.mpr ⟨List.forall_mem_append.mpr ⟨List.forall_mem_append.mpr ⟨List.forall_mem_append.mpr ⟨List.forall_mem_append.mpr ⟨wsT_1, List.forall_mem_append.mpr ⟨wsT_2, List.forall_mem_append.mpr ⟨wsT_3, List.forall_mem_append.mpr ⟨wsT_4, List.forall_mem_append.mpr ⟨wsT_5, List.forall_mem_append.mpr ⟨wsT_6, List.forall_mem_append.mpr ⟨wsT_7, List.forall_mem_append.mpr ⟨wsT_8, List.forall_mem_append.mpr ⟨wsT_9, List.forall_mem_append.mpr ⟨wsT_10, List.forall_mem_append.mpr ⟨wsT_11, List.forall_mem_append.mpr ⟨wsT_12, List.forall_mem_append.mpr ⟨wsT_13, List.forall_mem_append.mpr ⟨wsT_14, List.forall_mem_append.mpr ⟨wsT_15, List.forall_mem_append.mpr ⟨wsT_16, List.forall_mem_append.mpr ⟨wsT_17, List.forall_mem_append.mpr ⟨wsT_18, List.forall_mem_append.mpr ⟨wsT_19, List.forall_mem_append.mpr ⟨wsT_20, List.forall_mem_append.mpr ⟨wsT_21, List.forall_mem_append.mpr ⟨wsT_22, List.forall_mem_append.mpr ⟨wsT_23, List.forall_mem_append.mpr ⟨wsT_24, List.forall_mem_append.mpr ⟨wsT_25, List.forall_mem_append.mpr ⟨wsT_26, List.forall_mem_append.mpr ⟨wsT_27, List.forall_mem_append.mpr ⟨wsT_28, List.forall_mem_append.mpr ⟨wsT_29, List.forall_mem_append.mpr ⟨wsT_30, List.forall_mem_append.mpr ⟨wsT_31, List.forall_mem_append.mpr ⟨wsT_32, List.forall_mem_append.mpr ⟨wsT_33, wsT_34⟩⟩⟩⟩⟩⟩⟩⟩⟩⟩⟩⟩⟩⟩⟩⟩⟩⟩⟩⟩⟩⟩⟩⟩⟩⟩⟩⟩⟩⟩⟩⟩⟩, wsTX7⟩, wsTX8⟩, wsTX2⟩, wsTX4⟩, wsTX1⟩, wsTX5⟩, wsTX3⟩, wsTX6⟩, wsTX0⟩, fun _ h => absurd h List.not_mem_nil⟩
theorem jGood : ∀ w ∈ wsL_law, goodWord w = true := List.forall_mem_append.mpr ⟨List.forall_mem_append.mpr ⟨List.forall_mem_append.mpr ⟨List.forall_mem_append.mpr ⟨List.forall_mem_append.mpr ⟨List.forall_mem_append.mpr ⟨List.forall_mem_append.mpr ⟨List.forall_mem_append.mpr ⟨List.forall_mem_append.mpr ⟨List.forall_mem_append.mpr ⟨List.forall_mem_append.mpr ⟨(List.all_eq_true.mp wsG_1), List.forall_mem_append.mpr ⟨(List.all_eq_true.mp wsG_2), List.forall_mem_append.mpr ⟨(List.all_eq_true.mp wsG_3), List.forall_mem_append.mpr ⟨(List.all_eq_true.mp wsG_4), List.forall_mem_append.mpr ⟨(List.all_eq_true.mp wsG_5), List.forall_mem_append.mpr ⟨(List.all_eq_true.mp wsG_6), List.forall_mem_append.mpr ⟨(List.all_eq_true.mp wsG_7), List.forall_mem_append.mpr ⟨(List.all_eq_true.mp wsG_8), List.forall_mem_append.mpr ⟨(List.all_eq_true.mp wsG_9), List.forall_mem_append.mpr ⟨(List.all_eq_true.mp wsG_10), List.forall_mem_append.mpr ⟨(List.all_eq_true.mp wsG_11), List.forall_mem_append.mpr ⟨(List.all_eq_true.mp wsG_12), List.forall_mem_append.mpr ⟨(List.all_eq_true.mp wsG_13), List.forall_mem_append.mpr ⟨(List.all_eq_true.mp wsG_14), List.forall_mem_append.mpr ⟨(List.all_eq_true.mp wsG_15), List.forall_mem_append.mpr ⟨(List.all_eq_true.mp wsG_16), List.forall_mem_append.mpr ⟨(List.all_eq_true.mp wsG_17), List.forall_mem_append.mpr ⟨(List.all_eq_true.mp wsG_18), List.forall_mem_append.mpr ⟨(List.all_eq_true.mp wsG_19), List.forall_mem_append.mpr ⟨(List.all_eq_true.mp wsG_20), List.forall_mem_append.mpr ⟨(List.all_eq_true.mp wsG_21), List.forall_mem_append.mpr ⟨(List.all_eq_true.mp wsG_22), List.forall_mem_append.mpr ⟨(List.all_eq_true.mp wsG_23), List.forall_mem_append.mpr ⟨(List.all_eq_true.mp wsG_24), List.forall_mem_append.mpr ⟨(List.all_eq_true.mp wsG_25), List.forall_mem_append.mpr ⟨(List.all_eq_true.mp wsG_26), List.forall_mem_append.mpr ⟨(List.all_eq_true.mp wsG_27), List.forall_mem_append.mpr ⟨(List.all_eq_true.mp wsG_28), List.forall_mem_append.mpr ⟨(List.all_eq_true.mp wsG_29), List.forall_mem_append.mpr ⟨(List.all_eq_true.mp wsG_30), List.forall_mem_append.mpr ⟨(List.all_eq_true.mp wsG_31), List.forall_mem_append.mpr ⟨(List.all_eq_true.mp wsG_32), List.forall_mem_append.mpr ⟨(List.all_eq_true.mp wsG_33), (List.all_eq_true.mp wsG_34)⟩⟩⟩⟩⟩⟩⟩⟩⟩⟩⟩⟩⟩⟩⟩⟩⟩⟩⟩⟩⟩⟩⟩⟩⟩⟩⟩⟩⟩⟩⟩⟩⟩, List.all_eq_true.mp wsGX7⟩, List.all_eq_true.mp wsGX8⟩, List.all_eq_true.mp wsGX2⟩, List.all_eq_true.mp wsGX4⟩, List.all_eq_true.mp wsGX1⟩, List.all_eq_true.mp wsGX5⟩, List.all_eq_true.mp wsGX3⟩, List.all_eq_true.mp wsGX6⟩, List.all_eq_true.mp wsGX0⟩, fun _ h => absurd h List.not_mem_nil⟩
theorem inlX0 : ∀ w ∈ wsX00, w ∈ wsL_law := fun _ h => List.mem_append_left _ (List.mem_append_right _ h)
theorem inlX1 : ∀ w ∈ wsX10, w ∈ wsL_law := fun _ h => List.mem_append_left _ (List.mem_append_left _ (List.mem_append_left _ (List.mem_append_left _ (List.mem_append_left _ (List.mem_append_right _ h)))))
theorem inlX2 : ∀ w ∈ wsX20, w ∈ wsL_law := fun _ h => List.mem_append_left _ (List.mem_append_left _ (List.mem_append_left _ (List.mem_append_left _ (List.mem_append_left _ (List.mem_append_left _ (List.mem_append_left _ (List.mem_append_right _ h)))))))
theorem inlX3 : ∀ w ∈ wsX30, w ∈ wsL_law := fun _ h => List.mem_append_left _ (List.mem_append_left _ (List.mem_append_left _ (List.mem_append_right _ h)))
theorem inlX4 : ∀ w ∈ wsX40, w ∈ wsL_law := fun _ h => List.mem_append_left _ (List.mem_append_left _ (List.mem_append_left _ (List.mem_append_left _ (List.mem_append_left _ (List.mem_append_left _ (List.mem_append_right _ h))))))
theorem inlX5 : ∀ w ∈ wsX50, w ∈ wsL_law := fun _ h => List.mem_append_left _ (List.mem_append_left _ (List.mem_append_left _ (List.mem_append_left _ (List.mem_append_right _ h))))
theorem inlX6 : ∀ w ∈ wsX60, w ∈ wsL_law := fun _ h => List.mem_append_left _ (List.mem_append_left _ (List.mem_append_right _ h))
theorem inlX7 : ∀ w ∈ wsX70, w ∈ wsL_law := fun _ h => List.mem_append_left _ (List.mem_append_left _ (List.mem_append_left _ (List.mem_append_left _ (List.mem_append_left _ (List.mem_append_left _ (List.mem_append_left _ (List.mem_append_left _ (List.mem_append_left _ (List.mem_append_right _ h)))))))))
theorem inlX8 : ∀ w ∈ wsX80, w ∈ wsL_law := fun _ h => List.mem_append_left _ (List.mem_append_left _ (List.mem_append_left _ (List.mem_append_left _ (List.mem_append_left _ (List.mem_append_left _ (List.mem_append_left _ (List.mem_append_left _ (List.mem_append_right _ h))))))))
abbrev vwCl : List vw_C := [(RX0, TX0, 3), (RX1, TX1, 2), (RX2, TX2, 9), (RX3, TX3, 2), (RX4, TX4, 5), (RX5, TX5, 9), (RX6, TX6, 1), (RX7, TX7, 7), (RX8, TX8, 34)]
theorem wsr_1 : ∀ w ∈ wsL_law_r1, w ∈ wsL_law := fun _ h => (List.mem_append_left _ (List.mem_append_left _ (List.mem_append_left _ (List.mem_append_left _ (List.mem_append_left _ (List.mem_append_left _ (List.mem_append_left _ (List.mem_append_left _ (List.mem_append_left _ (List.mem_append_left _ (List.mem_append_left _ h)))))))))))
theorem wsr_2 : ∀ w ∈ wsL_law_r2, w ∈ wsL_law := fun _ h => (List.mem_append_left _ (List.mem_append_left _ (List.mem_append_left _ (List.mem_append_left _ (List.mem_append_left _ (List.mem_append_left _ (List.mem_append_left _ (List.mem_append_left _ (List.mem_append_left _ (List.mem_append_left _ (List.mem_append_right _ (List.mem_append_left _ h))))))))))))
theorem wsr_3 : ∀ w ∈ wsL_law_r3, w ∈ wsL_law := fun _ h => (List.mem_append_left _ (List.mem_append_left _ (List.mem_append_left _ (List.mem_append_left _ (List.mem_append_left _ (List.mem_append_left _ (List.mem_append_left _ (List.mem_append_left _ (List.mem_append_left _ (List.mem_append_left _ (List.mem_append_right _ (List.mem_append_right _ (List.mem_append_left _ h)))))))))))))
theorem wsr_4 : ∀ w ∈ wsL_law_r4, w ∈ wsL_law := fun _ h => (List.mem_append_left _ (List.mem_append_left _ (List.mem_append_left _ (List.mem_append_left _ (List.mem_append_left _ (List.mem_append_left _ (List.mem_append_left _ (List.mem_append_left _ (List.mem_append_left _ (List.mem_append_left _ (List.mem_append_right _ (List.mem_append_right _ (List.mem_append_right _ (List.mem_append_left _ h))))))))))))))
theorem wsr_5 : ∀ w ∈ wsL_law_r5, w ∈ wsL_law := fun _ h => (List.mem_append_left _ (List.mem_append_left _ (List.mem_append_left _ (List.mem_append_left _ (List.mem_append_left _ (List.mem_append_left _ (List.mem_append_left _ (List.mem_append_left _ (List.mem_append_left _ (List.mem_append_left _ (List.mem_append_right _ (List.mem_append_right _ (List.mem_append_right _ (List.mem_append_right _ (List.mem_append_left _ h)))))))))))))))
theorem wsr_6 : ∀ w ∈ wsL_law_r6, w ∈ wsL_law := fun _ h => (List.mem_append_left _ (List.mem_append_left _ (List.mem_append_left _ (List.mem_append_left _ (List.mem_append_left _ (List.mem_append_left _ (List.mem_append_left _ (List.mem_append_left _ (List.mem_append_left _ (List.mem_append_left _ (List.mem_append_right _ (List.mem_append_right _ (List.mem_append_right _ (List.mem_append_right _ (List.mem_append_right _ (List.mem_append_left _ h))))))))))))))))
theorem wsr_7 : ∀ w ∈ wsL_law_r7, w ∈ wsL_law := fun _ h => (List.mem_append_left _ (List.mem_append_left _ (List.mem_append_left _ (List.mem_append_left _ (List.mem_append_left _ (List.mem_append_left _ (List.mem_append_left _ (List.mem_append_left _ (List.mem_append_left _ (List.mem_append_left _ (List.mem_append_right _ (List.mem_append_right _ (List.mem_append_right _ (List.mem_append_right _ (List.mem_append_right _ (List.mem_append_right _ (List.mem_append_left _ h)))))))))))))))))
theorem wsr_8 : ∀ w ∈ wsL_law_r8, w ∈ wsL_law := fun _ h => (List.mem_append_left _ (List.mem_append_left _ (List.mem_append_left _ (List.mem_append_left _ (List.mem_append_left _ (List.mem_append_left _ (List.mem_append_left _ (List.mem_append_left _ (List.mem_append_left _ (List.mem_append_left _ (List.mem_append_right _ (List.mem_append_right _ (List.mem_append_right _ (List.mem_append_right _ (List.mem_append_right _ (List.mem_append_right _ (List.mem_append_right _ (List.mem_append_left _ h))))))))))))))))))
theorem wsr_9 : ∀ w ∈ wsL_law_r9, w ∈ wsL_law := fun _ h => (List.mem_append_left _ (List.mem_append_left _ (List.mem_append_left _ (List.mem_append_left _ (List.mem_append_left _ (List.mem_append_left _ (List.mem_append_left _ (List.mem_append_left _ (List.mem_append_left _ (List.mem_append_left _ (List.mem_append_right _ (List.mem_append_right _ (List.mem_append_right _ (List.mem_append_right _ (List.mem_append_right _ (List.mem_append_right _ (List.mem_append_right _ (List.mem_append_right _ (List.mem_append_left _ h)))))))))))))))))))
theorem wsr_10 : ∀ w ∈ wsL_law_r10, w ∈ wsL_law := fun _ h => (List.mem_append_left _ (List.mem_append_left _ (List.mem_append_left _ (List.mem_append_left _ (List.mem_append_left _ (List.mem_append_left _ (List.mem_append_left _ (List.mem_append_left _ (List.mem_append_left _ (List.mem_append_left _ (List.mem_append_right _ (List.mem_append_right _ (List.mem_append_right _ (List.mem_append_right _ (List.mem_append_right _ (List.mem_append_right _ (List.mem_append_right _ (List.mem_append_right _ (List.mem_append_right _ (List.mem_append_left _ h))))))))))))))))))))
theorem wsr_11 : ∀ w ∈ wsL_law_r11, w ∈ wsL_law := fun _ h => (List.mem_append_left _ (List.mem_append_left _ (List.mem_append_left _ (List.mem_append_left _ (List.mem_append_left _ (List.mem_append_left _ (List.mem_append_left _ (List.mem_append_left _ (List.mem_append_left _ (List.mem_append_left _ (List.mem_append_right _ (List.mem_append_right _ (List.mem_append_right _ (List.mem_append_right _ (List.mem_append_right _ (List.mem_append_right _ (List.mem_append_right _ (List.mem_append_right _ (List.mem_append_right _ (List.mem_append_right _ (List.mem_append_left _ h)))))))))))))))))))))
theorem wsr_12 : ∀ w ∈ wsL_law_r12, w ∈ wsL_law := fun _ h => (List.mem_append_left _ (List.mem_append_left _ (List.mem_append_left _ (List.mem_append_left _ (List.mem_append_left _ (List.mem_append_left _ (List.mem_append_left _ (List.mem_append_left _ (List.mem_append_left _ (List.mem_append_left _ (List.mem_append_right _ (List.mem_append_right _ (List.mem_append_right _ (List.mem_append_right _ (List.mem_append_right _ (List.mem_append_right _ (List.mem_append_right _ (List.mem_append_right _ (List.mem_append_right _ (List.mem_append_right _ (List.mem_append_right _ (List.mem_append_left _ h))))))))))))))))))))))
theorem wsr_13 : ∀ w ∈ wsL_law_r13, w ∈ wsL_law := fun _ h => (List.mem_append_left _ (List.mem_append_left _ (List.mem_append_left _ (List.mem_append_left _ (List.mem_append_left _ (List.mem_append_left _ (List.mem_append_left _ (List.mem_append_left _ (List.mem_append_left _ (List.mem_append_left _ (List.mem_append_right _ (List.mem_append_right _ (List.mem_append_right _ (List.mem_append_right _ (List.mem_append_right _ (List.mem_append_right _ (List.mem_append_right _ (List.mem_append_right _ (List.mem_append_right _ (List.mem_append_right _ (List.mem_append_right _ (List.mem_append_right _ (List.mem_append_left _ h)))))))))))))))))))))))
theorem wsr_14 : ∀ w ∈ wsL_law_r14, w ∈ wsL_law := fun _ h => (List.mem_append_left _ (List.mem_append_left _ (List.mem_append_left _ (List.mem_append_left _ (List.mem_append_left _ (List.mem_append_left _ (List.mem_append_left _ (List.mem_append_left _ (List.mem_append_left _ (List.mem_append_left _ (List.mem_append_right _ (List.mem_append_right _ (List.mem_append_right _ (List.mem_append_right _ (List.mem_append_right _ (List.mem_append_right _ (List.mem_append_right _ (List.mem_append_right _ (List.mem_append_right _ (List.mem_append_right _ (List.mem_append_right _ (List.mem_append_right _ (List.mem_append_right _ (List.mem_append_left _ h))))))))))))))))))))))))
theorem wsr_15 : ∀ w ∈ wsL_law_r15, w ∈ wsL_law := fun _ h => (List.mem_append_left _ (List.mem_append_left _ (List.mem_append_left _ (List.mem_append_left _ (List.mem_append_left _ (List.mem_append_left _ (List.mem_append_left _ (List.mem_append_left _ (List.mem_append_left _ (List.mem_append_left _ (List.mem_append_right _ (List.mem_append_right _ (List.mem_append_right _ (List.mem_append_right _ (List.mem_append_right _ (List.mem_append_right _ (List.mem_append_right _ (List.mem_append_right _ (List.mem_append_right _ (List.mem_append_right _ (List.mem_append_right _ (List.mem_append_right _ (List.mem_append_right _ (List.mem_append_right _ (List.mem_append_left _ h)))))))))))))))))))))))))
theorem wsr_16 : ∀ w ∈ wsL_law_r16, w ∈ wsL_law := fun _ h => (List.mem_append_left _ (List.mem_append_left _ (List.mem_append_left _ (List.mem_append_left _ (List.mem_append_left _ (List.mem_append_left _ (List.mem_append_left _ (List.mem_append_left _ (List.mem_append_left _ (List.mem_append_left _ (List.mem_append_right _ (List.mem_append_right _ (List.mem_append_right _ (List.mem_append_right _ (List.mem_append_right _ (List.mem_append_right _ (List.mem_append_right _ (List.mem_append_right _ (List.mem_append_right _ (List.mem_append_right _ (List.mem_append_right _ (List.mem_append_right _ (List.mem_append_right _ (List.mem_append_right _ (List.mem_append_right _ (List.mem_append_left _ h))))))))))))))))))))))))))
theorem wsr_17 : ∀ w ∈ wsL_law_r17, w ∈ wsL_law := fun _ h => (List.mem_append_left _ (List.mem_append_left _ (List.mem_append_left _ (List.mem_append_left _ (List.mem_append_left _ (List.mem_append_left _ (List.mem_append_left _ (List.mem_append_left _ (List.mem_append_left _ (List.mem_append_left _ (List.mem_append_right _ (List.mem_append_right _ (List.mem_append_right _ (List.mem_append_right _ (List.mem_append_right _ (List.mem_append_right _ (List.mem_append_right _ (List.mem_append_right _ (List.mem_append_right _ (List.mem_append_right _ (List.mem_append_right _ (List.mem_append_right _ (List.mem_append_right _ (List.mem_append_right _ (List.mem_append_right _ (List.mem_append_right _ (List.mem_append_left _ h)))))))))))))))))))))))))))
theorem wsr_18 : ∀ w ∈ wsL_law_r18, w ∈ wsL_law := fun _ h => (List.mem_append_left _ (List.mem_append_left _ (List.mem_append_left _ (List.mem_append_left _ (List.mem_append_left _ (List.mem_append_left _ (List.mem_append_left _ (List.mem_append_left _ (List.mem_append_left _ (List.mem_append_left _ (List.mem_append_right _ (List.mem_append_right _ (List.mem_append_right _ (List.mem_append_right _ (List.mem_append_right _ (List.mem_append_right _ (List.mem_append_right _ (List.mem_append_right _ (List.mem_append_right _ (List.mem_append_right _ (List.mem_append_right _ (List.mem_append_right _ (List.mem_append_right _ (List.mem_append_right _ (List.mem_append_right _ (List.mem_append_right _ (List.mem_append_right _ (List.mem_append_left _ h))))))))))))))))))))))))))))
theorem wsr_19 : ∀ w ∈ wsL_law_r19, w ∈ wsL_law := fun _ h => (List.mem_append_left _ (List.mem_append_left _ (List.mem_append_left _ (List.mem_append_left _ (List.mem_append_left _ (List.mem_append_left _ (List.mem_append_left _ (List.mem_append_left _ (List.mem_append_left _ (List.mem_append_left _ (List.mem_append_right _ (List.mem_append_right _ (List.mem_append_right _ (List.mem_append_right _ (List.mem_append_right _ (List.mem_append_right _ (List.mem_append_right _ (List.mem_append_right _ (List.mem_append_right _ (List.mem_append_right _ (List.mem_append_right _ (List.mem_append_right _ (List.mem_append_right _ (List.mem_append_right _ (List.mem_append_right _ (List.mem_append_right _ (List.mem_append_right _ (List.mem_append_right _ (List.mem_append_left _ h)))))))))))))))))))))))))))))
theorem wsr_20 : ∀ w ∈ wsL_law_r20, w ∈ wsL_law := fun _ h => (List.mem_append_left _ (List.mem_append_left _ (List.mem_append_left _ (List.mem_append_left _ (List.mem_append_left _ (List.mem_append_left _ (List.mem_append_left _ (List.mem_append_left _ (List.mem_append_left _ (List.mem_append_left _ (List.mem_append_right _ (List.mem_append_right _ (List.mem_append_right _ (List.mem_append_right _ (List.mem_append_right _ (List.mem_append_right _ (List.mem_append_right _ (List.mem_append_right _ (List.mem_append_right _ (List.mem_append_right _ (List.mem_append_right _ (List.mem_append_right _ (List.mem_append_right _ (List.mem_append_right _ (List.mem_append_right _ (List.mem_append_right _ (List.mem_append_right _ (List.mem_append_right _ (List.mem_append_right _ (List.mem_append_left _ h))))))))))))))))))))))))))))))
theorem wsr_21 : ∀ w ∈ wsL_law_r21, w ∈ wsL_law := fun _ h => (List.mem_append_left _ (List.mem_append_left _ (List.mem_append_left _ (List.mem_append_left _ (List.mem_append_left _ (List.mem_append_left _ (List.mem_append_left _ (List.mem_append_left _ (List.mem_append_left _ (List.mem_append_left _ (List.mem_append_right _ (List.mem_append_right _ (List.mem_append_right _ (List.mem_append_right _ (List.mem_append_right _ (List.mem_append_right _ (List.mem_append_right _ (List.mem_append_right _ (List.mem_append_right _ (List.mem_append_right _ (List.mem_append_right _ (List.mem_append_right _ (List.mem_append_right _ (List.mem_append_right _ (List.mem_append_right _ (List.mem_append_right _ (List.mem_append_right _ (List.mem_append_right _ (List.mem_append_right _ (List.mem_append_right _ (List.mem_append_left _ h)))))))))))))))))))))))))))))))
theorem wsr_22 : ∀ w ∈ wsL_law_r22, w ∈ wsL_law := fun _ h => (List.mem_append_left _ (List.mem_append_left _ (List.mem_append_left _ (List.mem_append_left _ (List.mem_append_left _ (List.mem_append_left _ (List.mem_append_left _ (List.mem_append_left _ (List.mem_append_left _ (List.mem_append_left _ (List.mem_append_right _ (List.mem_append_right _ (List.mem_append_right _ (List.mem_append_right _ (List.mem_append_right _ (List.mem_append_right _ (List.mem_append_right _ (List.mem_append_right _ (List.mem_append_right _ (List.mem_append_right _ (List.mem_append_right _ (List.mem_append_right _ (List.mem_append_right _ (List.mem_append_right _ (List.mem_append_right _ (List.mem_append_right _ (List.mem_append_right _ (List.mem_append_right _ (List.mem_append_right _ (List.mem_append_right _ (List.mem_append_right _ (List.mem_append_left _ h))))))))))))))))))))))))))))))))
theorem wsr_23 : ∀ w ∈ wsL_law_r23, w ∈ wsL_law := fun _ h => (List.mem_append_left _ (List.mem_append_left _ (List.mem_append_left _ (List.mem_append_left _ (List.mem_append_left _ (List.mem_append_left _ (List.mem_append_left _ (List.mem_append_left _ (List.mem_append_left _ (List.mem_append_left _ (List.mem_append_right _ (List.mem_append_right _ (List.mem_append_right _ (List.mem_append_right _ (List.mem_append_right _ (List.mem_append_right _ (List.mem_append_right _ (List.mem_append_right _ (List.mem_append_right _ (List.mem_append_right _ (List.mem_append_right _ (List.mem_append_right _ (List.mem_append_right _ (List.mem_append_right _ (List.mem_append_right _ (List.mem_append_right _ (List.mem_append_right _ (List.mem_append_right _ (List.mem_append_right _ (List.mem_append_right _ (List.mem_append_right _ (List.mem_append_right _ (List.mem_append_left _ h)))))))))))))))))))))))))))))))))
theorem wsr_24 : ∀ w ∈ wsL_law_r24, w ∈ wsL_law := fun _ h => (List.mem_append_left _ (List.mem_append_left _ (List.mem_append_left _ (List.mem_append_left _ (List.mem_append_left _ (List.mem_append_left _ (List.mem_append_left _ (List.mem_append_left _ (List.mem_append_left _ (List.mem_append_left _ (List.mem_append_right _ (List.mem_append_right _ (List.mem_append_right _ (List.mem_append_right _ (List.mem_append_right _ (List.mem_append_right _ (List.mem_append_right _ (List.mem_append_right _ (List.mem_append_right _ (List.mem_append_right _ (List.mem_append_right _ (List.mem_append_right _ (List.mem_append_right _ (List.mem_append_right _ (List.mem_append_right _ (List.mem_append_right _ (List.mem_append_right _ (List.mem_append_right _ (List.mem_append_right _ (List.mem_append_right _ (List.mem_append_right _ (List.mem_append_right _ (List.mem_append_right _ (List.mem_append_left _ h))))))))))))))))))))))))))))))))))
theorem wsr_25 : ∀ w ∈ wsL_law_r25, w ∈ wsL_law := fun _ h => (List.mem_append_left _ (List.mem_append_left _ (List.mem_append_left _ (List.mem_append_left _ (List.mem_append_left _ (List.mem_append_left _ (List.mem_append_left _ (List.mem_append_left _ (List.mem_append_left _ (List.mem_append_left _ (List.mem_append_right _ (List.mem_append_right _ (List.mem_append_right _ (List.mem_append_right _ (List.mem_append_right _ (List.mem_append_right _ (List.mem_append_right _ (List.mem_append_right _ (List.mem_append_right _ (List.mem_append_right _ (List.mem_append_right _ (List.mem_append_right _ (List.mem_append_right _ (List.mem_append_right _ (List.mem_append_right _ (List.mem_append_right _ (List.mem_append_right _ (List.mem_append_right _ (List.mem_append_right _ (List.mem_append_right _ (List.mem_append_right _ (List.mem_append_right _ (List.mem_append_right _ (List.mem_append_right _ (List.mem_append_left _ h)))))))))))))))))))))))))))))))))))
theorem wsr_26 : ∀ w ∈ wsL_law_r26, w ∈ wsL_law := fun _ h => (List.mem_append_left _ (List.mem_append_left _ (List.mem_append_left _ (List.mem_append_left _ (List.mem_append_left _ (List.mem_append_left _ (List.mem_append_left _ (List.mem_append_left _ (List.mem_append_left _ (List.mem_append_left _ (List.mem_append_right _ (List.mem_append_right _ (List.mem_append_right _ (List.mem_append_right _ (List.mem_append_right _ (List.mem_append_right _ (List.mem_append_right _ (List.mem_append_right _ (List.mem_append_right _ (List.mem_append_right _ (List.mem_append_right _ (List.mem_append_right _ (List.mem_append_right _ (List.mem_append_right _ (List.mem_append_right _ (List.mem_append_right _ (List.mem_append_right _ (List.mem_append_right _ (List.mem_append_right _ (List.mem_append_right _ (List.mem_append_right _ (List.mem_append_right _ (List.mem_append_right _ (List.mem_append_right _ (List.mem_append_right _ (List.mem_append_left _ h))))))))))))))))))))))))))))))))))))
theorem wsr_27 : ∀ w ∈ wsL_law_r27, w ∈ wsL_law := fun _ h => (List.mem_append_left _ (List.mem_append_left _ (List.mem_append_left _ (List.mem_append_left _ (List.mem_append_left _ (List.mem_append_left _ (List.mem_append_left _ (List.mem_append_left _ (List.mem_append_left _ (List.mem_append_left _ (List.mem_append_right _ (List.mem_append_right _ (List.mem_append_right _ (List.mem_append_right _ (List.mem_append_right _ (List.mem_append_right _ (List.mem_append_right _ (List.mem_append_right _ (List.mem_append_right _ (List.mem_append_right _ (List.mem_append_right _ (List.mem_append_right _ (List.mem_append_right _ (List.mem_append_right _ (List.mem_append_right _ (List.mem_append_right _ (List.mem_append_right _ (List.mem_append_right _ (List.mem_append_right _ (List.mem_append_right _ (List.mem_append_right _ (List.mem_append_right _ (List.mem_append_right _ (List.mem_append_right _ (List.mem_append_right _ (List.mem_append_right _ (List.mem_append_left _ h)))))))))))))))))))))))))))))))))))))
theorem wsr_28 : ∀ w ∈ wsL_law_r28, w ∈ wsL_law := fun _ h => (List.mem_append_left _ (List.mem_append_left _ (List.mem_append_left _ (List.mem_append_left _ (List.mem_append_left _ (List.mem_append_left _ (List.mem_append_left _ (List.mem_append_left _ (List.mem_append_left _ (List.mem_append_left _ (List.mem_append_right _ (List.mem_append_right _ (List.mem_append_right _ (List.mem_append_right _ (List.mem_append_right _ (List.mem_append_right _ (List.mem_append_right _ (List.mem_append_right _ (List.mem_append_right _ (List.mem_append_right _ (List.mem_append_right _ (List.mem_append_right _ (List.mem_append_right _ (List.mem_append_right _ (List.mem_append_right _ (List.mem_append_right _ (List.mem_append_right _ (List.mem_append_right _ (List.mem_append_right _ (List.mem_append_right _ (List.mem_append_right _ (List.mem_append_right _ (List.mem_append_right _ (List.mem_append_right _ (List.mem_append_right _ (List.mem_append_right _ (List.mem_append_right _ (List.mem_append_left _ h))))))))))))))))))))))))))))))))))))))
theorem wsr_29 : ∀ w ∈ wsL_law_r29, w ∈ wsL_law := fun _ h => (List.mem_append_left _ (List.mem_append_left _ (List.mem_append_left _ (List.mem_append_left _ (List.mem_append_left _ (List.mem_append_left _ (List.mem_append_left _ (List.mem_append_left _ (List.mem_append_left _ (List.mem_append_left _ (List.mem_append_right _ (List.mem_append_right _ (List.mem_append_right _ (List.mem_append_right _ (List.mem_append_right _ (List.mem_append_right _ (List.mem_append_right _ (List.mem_append_right _ (List.mem_append_right _ (List.mem_append_right _ (List.mem_append_right _ (List.mem_append_right _ (List.mem_append_right _ (List.mem_append_right _ (List.mem_append_right _ (List.mem_append_right _ (List.mem_append_right _ (List.mem_append_right _ (List.mem_append_right _ (List.mem_append_right _ (List.mem_append_right _ (List.mem_append_right _ (List.mem_append_right _ (List.mem_append_right _ (List.mem_append_right _ (List.mem_append_right _ (List.mem_append_right _ (List.mem_append_right _ (List.mem_append_left _ h)))))))))))))))))))))))))))))))))))))))
theorem wsr_30 : ∀ w ∈ wsL_law_r30, w ∈ wsL_law := fun _ h => (List.mem_append_left _ (List.mem_append_left _ (List.mem_append_left _ (List.mem_append_left _ (List.mem_append_left _ (List.mem_append_left _ (List.mem_append_left _ (List.mem_append_left _ (List.mem_append_left _ (List.mem_append_left _ (List.mem_append_right _ (List.mem_append_right _ (List.mem_append_right _ (List.mem_append_right _ (List.mem_append_right _ (List.mem_append_right _ (List.mem_append_right _ (List.mem_append_right _ (List.mem_append_right _ (List.mem_append_right _ (List.mem_append_right _ (List.mem_append_right _ (List.mem_append_right _ (List.mem_append_right _ (List.mem_append_right _ (List.mem_append_right _ (List.mem_append_right _ (List.mem_append_right _ (List.mem_append_right _ (List.mem_append_right _ (List.mem_append_right _ (List.mem_append_right _ (List.mem_append_right _ (List.mem_append_right _ (List.mem_append_right _ (List.mem_append_right _ (List.mem_append_right _ (List.mem_append_right _ (List.mem_append_right _ (List.mem_append_left _ h))))))))))))))))))))))))))))))))))))))))
theorem wsr_31 : ∀ w ∈ wsL_law_r31, w ∈ wsL_law := fun _ h => (List.mem_append_left _ (List.mem_append_left _ (List.mem_append_left _ (List.mem_append_left _ (List.mem_append_left _ (List.mem_append_left _ (List.mem_append_left _ (List.mem_append_left _ (List.mem_append_left _ (List.mem_append_left _ (List.mem_append_right _ (List.mem_append_right _ (List.mem_append_right _ (List.mem_append_right _ (List.mem_append_right _ (List.mem_append_right _ (List.mem_append_right _ (List.mem_append_right _ (List.mem_append_right _ (List.mem_append_right _ (List.mem_append_right _ (List.mem_append_right _ (List.mem_append_right _ (List.mem_append_right _ (List.mem_append_right _ (List.mem_append_right _ (List.mem_append_right _ (List.mem_append_right _ (List.mem_append_right _ (List.mem_append_right _ (List.mem_append_right _ (List.mem_append_right _ (List.mem_append_right _ (List.mem_append_right _ (List.mem_append_right _ (List.mem_append_right _ (List.mem_append_right _ (List.mem_append_right _ (List.mem_append_right _ (List.mem_append_right _ (List.mem_append_left _ h)))))))))))))))))))))))))))))))))))))))))
theorem wsr_32 : ∀ w ∈ wsL_law_r32, w ∈ wsL_law := fun _ h => (List.mem_append_left _ (List.mem_append_left _ (List.mem_append_left _ (List.mem_append_left _ (List.mem_append_left _ (List.mem_append_left _ (List.mem_append_left _ (List.mem_append_left _ (List.mem_append_left _ (List.mem_append_left _ (List.mem_append_right _ (List.mem_append_right _ (List.mem_append_right _ (List.mem_append_right _ (List.mem_append_right _ (List.mem_append_right _ (List.mem_append_right _ (List.mem_append_right _ (List.mem_append_right _ (List.mem_append_right _ (List.mem_append_right _ (List.mem_append_right _ (List.mem_append_right _ (List.mem_append_right _ (List.mem_append_right _ (List.mem_append_right _ (List.mem_append_right _ (List.mem_append_right _ (List.mem_append_right _ (List.mem_append_right _ (List.mem_append_right _ (List.mem_append_right _ (List.mem_append_right _ (List.mem_append_right _ (List.mem_append_right _ (List.mem_append_right _ (List.mem_append_right _ (List.mem_append_right _ (List.mem_append_right _ (List.mem_append_right _ (List.mem_append_right _ (List.mem_append_left _ h))))))))))))))))))))))))))))))))))))))))))
theorem wsr_33 : ∀ w ∈ wsL_law_r33, w ∈ wsL_law := fun _ h => (List.mem_append_left _ (List.mem_append_left _ (List.mem_append_left _ (List.mem_append_left _ (List.mem_append_left _ (List.mem_append_left _ (List.mem_append_left _ (List.mem_append_left _ (List.mem_append_left _ (List.mem_append_left _ (List.mem_append_right _ (List.mem_append_right _ (List.mem_append_right _ (List.mem_append_right _ (List.mem_append_right _ (List.mem_append_right _ (List.mem_append_right _ (List.mem_append_right _ (List.mem_append_right _ (List.mem_append_right _ (List.mem_append_right _ (List.mem_append_right _ (List.mem_append_right _ (List.mem_append_right _ (List.mem_append_right _ (List.mem_append_right _ (List.mem_append_right _ (List.mem_append_right _ (List.mem_append_right _ (List.mem_append_right _ (List.mem_append_right _ (List.mem_append_right _ (List.mem_append_right _ (List.mem_append_right _ (List.mem_append_right _ (List.mem_append_right _ (List.mem_append_right _ (List.mem_append_right _ (List.mem_append_right _ (List.mem_append_right _ (List.mem_append_right _ (List.mem_append_right _ (List.mem_append_left _ h)))))))))))))))))))))))))))))))))))))))))))
theorem wsr_34 : ∀ w ∈ wsL_law_r34, w ∈ wsL_law := fun _ h => (List.mem_append_left _ (List.mem_append_left _ (List.mem_append_left _ (List.mem_append_left _ (List.mem_append_left _ (List.mem_append_left _ (List.mem_append_left _ (List.mem_append_left _ (List.mem_append_left _ (List.mem_append_left _ (List.mem_append_right _ (List.mem_append_right _ (List.mem_append_right _ (List.mem_append_right _ (List.mem_append_right _ (List.mem_append_right _ (List.mem_append_right _ (List.mem_append_right _ (List.mem_append_right _ (List.mem_append_right _ (List.mem_append_right _ (List.mem_append_right _ (List.mem_append_right _ (List.mem_append_right _ (List.mem_append_right _ (List.mem_append_right _ (List.mem_append_right _ (List.mem_append_right _ (List.mem_append_right _ (List.mem_append_right _ (List.mem_append_right _ (List.mem_append_right _ (List.mem_append_right _ (List.mem_append_right _ (List.mem_append_right _ (List.mem_append_right _ (List.mem_append_right _ (List.mem_append_right _ (List.mem_append_right _ (List.mem_append_right _ (List.mem_append_right _ (List.mem_append_right _ (List.mem_append_right _ h)))))))))))))))))))))))))))))))))))))))))))
theorem wm_1_0 : Cond.classLink RL 7 RX7 ∈ wsL_law := wsr_1 _ (List.mem_of_getElem? (i := 0) rfl)
theorem wm_1_1 : Cond.instantiable RX7 7 ∈ wsL_law := wsr_1 _ (List.mem_of_getElem? (i := 1) rfl)
theorem wm_1_2 : Cond.initialized RX7 ∈ wsL_law := wsr_1 _ (List.mem_of_getElem? (i := 2) rfl)
theorem wm_1_3 : Cond.classLink RL 10 RX8 ∈ wsL_law := wsr_1 _ (List.mem_of_getElem? (i := 3) rfl)
theorem wm_1_4 : Cond.instantiable RX8 34 ∈ wsL_law := wsr_1 _ (List.mem_of_getElem? (i := 4) rfl)
theorem wm_1_5 : Cond.initialized RX8 ∈ wsL_law := wsr_1 _ (List.mem_of_getElem? (i := 5) rfl)
theorem wm_1_6 : Cond.methodLink RL 9 yX7_init ∈ wsL_law := wsr_1 _ (List.mem_of_getElem? (i := 6) rfl)
theorem wm_1_7 : Cond.instanceMethod yX7_init ∈ wsL_law := wsr_1 _ (List.mem_of_getElem? (i := 7) rfl)
theorem wm_1_8 : Cond.code yX7_init cX7_init 2 none ∈ wsL_law := wsr_1 _ (List.mem_of_getElem? (i := 8) rfl)
theorem wm_1_9 : Cond.methodLink RX7 1 objectInit ∈ wsL_law := wsr_1 _ (List.mem_of_getElem? (i := 9) rfl)
theorem wm_1_10 : Cond.instanceMethod objectInit ∈ wsL_law := wsr_1 _ (List.mem_of_getElem? (i := 10) rfl)
theorem wm_1_11 : Cond.code objectInit ⟨#[0xb1]⟩ 1 none ∈ wsL_law := wsr_1 _ (List.mem_of_getElem? (i := 11) rfl)
theorem wm_1_12 : Cond.classLink RX7 7 RX2 ∈ wsL_law := wsr_1 _ (List.mem_of_getElem? (i := 12) rfl)
theorem wm_1_13 : Cond.instantiable RX2 9 ∈ wsL_law := wsr_1 _ (List.mem_of_getElem? (i := 13) rfl)
theorem wm_1_14 : Cond.initialized RX2 ∈ wsL_law := wsr_1 _ (List.mem_of_getElem? (i := 14) rfl)
theorem wm_1_15 : Cond.fieldLink RX7 10 "AbbeyNotes" "now" "LAbbeyNotes$Realm;" ∈ wsL_law := wsr_1 _ (List.mem_of_getElem? (i := 15) rfl)
theorem wm_1_16 : Cond.classLink RX7 16 RX4 ∈ wsL_law := wsr_1 _ (List.mem_of_getElem? (i := 16) rfl)
theorem wm_1_17 : Cond.instantiable RX4 5 ∈ wsL_law := wsr_1 _ (List.mem_of_getElem? (i := 17) rfl)
theorem wm_1_18 : Cond.initialized RX4 ∈ wsL_law := wsr_1 _ (List.mem_of_getElem? (i := 18) rfl)
theorem wm_1_19 : Cond.fieldLink RX7 19 "AbbeyNotes" "sights" "LAbbeyNotes$Sights;" ∈ wsL_law := wsr_1 _ (List.mem_of_getElem? (i := 19) rfl)
theorem wm_1_20 : Cond.classLink RX7 23 RX1 ∈ wsL_law := wsr_1 _ (List.mem_of_getElem? (i := 20) rfl)
theorem wm_1_21 : Cond.instantiable RX1 2 ∈ wsL_law := wsr_1 _ (List.mem_of_getElem? (i := 21) rfl)
theorem wm_1_22 : Cond.initialized RX1 ∈ wsL_law := wsr_1 _ (List.mem_of_getElem? (i := 22) rfl)
theorem wm_1_23 : Cond.fieldLink RX7 26 "AbbeyNotes" "pad" "LAbbeyNotes$Pad;" ∈ wsL_law := wsr_1 _ (List.mem_of_getElem? (i := 23) rfl)
theorem wm_2_0 : Cond.classLink RX7 30 RX5 ∈ wsL_law := wsr_2 _ (List.mem_of_getElem? (i := 0) rfl)
theorem wm_2_1 : Cond.instantiable RX5 9 ∈ wsL_law := wsr_2 _ (List.mem_of_getElem? (i := 1) rfl)
theorem wm_2_2 : Cond.initialized RX5 ∈ wsL_law := wsr_2 _ (List.mem_of_getElem? (i := 2) rfl)
theorem wm_2_3 : Cond.fieldLink RX7 33 "AbbeyNotes" "trial" "LAbbeyNotes$Trial;" ∈ wsL_law := wsr_2 _ (List.mem_of_getElem? (i := 3) rfl)
theorem wm_2_4 : Cond.classLink RX7 37 RX3 ∈ wsL_law := wsr_2 _ (List.mem_of_getElem? (i := 4) rfl)
theorem wm_2_5 : Cond.instantiable RX3 2 ∈ wsL_law := wsr_2 _ (List.mem_of_getElem? (i := 5) rfl)
theorem wm_2_6 : Cond.initialized RX3 ∈ wsL_law := wsr_2 _ (List.mem_of_getElem? (i := 6) rfl)
theorem wm_2_7 : Cond.fieldLink RX7 40 "AbbeyNotes" "settling" "LAbbeyNotes$Settling;" ∈ wsL_law := wsr_2 _ (List.mem_of_getElem? (i := 7) rfl)
theorem wm_2_8 : Cond.classLink RX7 44 RX6 ∈ wsL_law := wsr_2 _ (List.mem_of_getElem? (i := 8) rfl)
theorem wm_2_9 : Cond.instantiable RX6 1 ∈ wsL_law := wsr_2 _ (List.mem_of_getElem? (i := 9) rfl)
theorem wm_2_10 : Cond.initialized RX6 ∈ wsL_law := wsr_2 _ (List.mem_of_getElem? (i := 10) rfl)
theorem wm_2_11 : Cond.fieldLink RX7 47 "AbbeyNotes" "waiting" "LAbbeyNotes$Waiting;" ∈ wsL_law := wsr_2 _ (List.mem_of_getElem? (i := 11) rfl)
theorem wm_2_12 : Cond.classLink RX7 51 RX0 ∈ wsL_law := wsr_2 _ (List.mem_of_getElem? (i := 12) rfl)
theorem wm_2_13 : Cond.fieldLink RX7 53 "AbbeyNotes" "images" "[LAbbeyNotes$Image;" ∈ wsL_law := wsr_2 _ (List.mem_of_getElem? (i := 13) rfl)
theorem wm_2_14 : Cond.instantiable RX0 3 ∈ wsL_law := wsr_2 _ (List.mem_of_getElem? (i := 14) rfl)
theorem wm_2_15 : Cond.initialized RX0 ∈ wsL_law := wsr_2 _ (List.mem_of_getElem? (i := 15) rfl)
theorem wm_2_16 : Cond.methodLink RX7 9 yX2_init ∈ wsL_law := wsr_2 _ (List.mem_of_getElem? (i := 16) rfl)
theorem wm_2_17 : Cond.instanceMethod yX2_init ∈ wsL_law := wsr_2 _ (List.mem_of_getElem? (i := 17) rfl)
theorem wm_2_18 : Cond.code yX2_init cX2_init 2 none ∈ wsL_law := wsr_2 _ (List.mem_of_getElem? (i := 18) rfl)
theorem wm_2_19 : Cond.methodLink RX2 3 objectInit ∈ wsL_law := wsr_2 _ (List.mem_of_getElem? (i := 19) rfl)
theorem wm_2_20 : Cond.arrayClass .int ∈ wsL_law := wsr_2 _ (List.mem_of_getElem? (i := 20) rfl)
theorem wm_2_21 : Cond.fieldLink RX2 9 "AbbeyNotes$Realm" "paper" "[I" ∈ wsL_law := wsr_2 _ (List.mem_of_getElem? (i := 21) rfl)
theorem wm_2_22 : Cond.fieldLink RX2 15 "AbbeyNotes$Realm" "coin" "[I" ∈ wsL_law := wsr_2 _ (List.mem_of_getElem? (i := 22) rfl)
theorem wm_2_23 : Cond.classLink RX2 18 "[[I" ∈ wsL_law := wsr_2 _ (List.mem_of_getElem? (i := 23) rfl)
theorem wm_3_0 : Cond.fieldLink RX2 20 "AbbeyNotes$Realm" "owes" "[[I" ∈ wsL_law := wsr_3 _ (List.mem_of_getElem? (i := 0) rfl)
theorem wm_3_1 : Cond.fieldLink RX2 23 "AbbeyNotes$Realm" "price" "[I" ∈ wsL_law := wsr_3 _ (List.mem_of_getElem? (i := 1) rfl)
theorem wm_3_2 : Cond.fieldLink RX2 26 "AbbeyNotes$Realm" "owner" "[I" ∈ wsL_law := wsr_3 _ (List.mem_of_getElem? (i := 2) rfl)
theorem wm_3_3 : Cond.instanceMethod yX4_init ∈ wsL_law := wsr_3 _ (List.mem_of_getElem? (i := 3) rfl)
theorem wm_3_4 : Cond.code yX4_init cX4_init 1 none ∈ wsL_law := wsr_3 _ (List.mem_of_getElem? (i := 4) rfl)
theorem wm_3_5 : Cond.methodLink RX4 3 objectInit ∈ wsL_law := wsr_3 _ (List.mem_of_getElem? (i := 5) rfl)
theorem wm_3_6 : Cond.fieldLink RX4 9 "AbbeyNotes$Sights" "chests" "[I" ∈ wsL_law := wsr_3 _ (List.mem_of_getElem? (i := 6) rfl)
theorem wm_3_7 : Cond.fieldLink RX4 15 "AbbeyNotes$Sights" "many" "[I" ∈ wsL_law := wsr_3 _ (List.mem_of_getElem? (i := 7) rfl)
theorem wm_3_8 : Cond.fieldLink RX4 18 "AbbeyNotes$Sights" "how" "[I" ∈ wsL_law := wsr_3 _ (List.mem_of_getElem? (i := 8) rfl)
theorem wm_3_9 : Cond.fieldLink RX4 21 "AbbeyNotes$Sights" "untrue" "[I" ∈ wsL_law := wsr_3 _ (List.mem_of_getElem? (i := 9) rfl)
theorem wm_3_10 : Cond.instanceMethod yX1_init ∈ wsL_law := wsr_3 _ (List.mem_of_getElem? (i := 10) rfl)
theorem wm_3_11 : Cond.code yX1_init cX1_init 1 none ∈ wsL_law := wsr_3 _ (List.mem_of_getElem? (i := 11) rfl)
theorem wm_3_12 : Cond.methodLink RX1 3 objectInit ∈ wsL_law := wsr_3 _ (List.mem_of_getElem? (i := 12) rfl)
theorem wm_3_13 : Cond.fieldLink RX1 9 "AbbeyNotes$Pad" "signs" "[I" ∈ wsL_law := wsr_3 _ (List.mem_of_getElem? (i := 13) rfl)
theorem wm_3_14 : Cond.instanceMethod yX5_init ∈ wsL_law := wsr_3 _ (List.mem_of_getElem? (i := 14) rfl)
theorem wm_3_15 : Cond.code yX5_init cX5_init 1 none ∈ wsL_law := wsr_3 _ (List.mem_of_getElem? (i := 15) rfl)
theorem wm_3_16 : Cond.methodLink RX5 3 objectInit ∈ wsL_law := wsr_3 _ (List.mem_of_getElem? (i := 16) rfl)
theorem wm_3_17 : Cond.classLink RX5 9 RX2 ∈ wsL_law := wsr_3 _ (List.mem_of_getElem? (i := 17) rfl)
theorem wm_3_18 : Cond.fieldLink RX5 12 "AbbeyNotes$Trial" "realm" "LAbbeyNotes$Realm;" ∈ wsL_law := wsr_3 _ (List.mem_of_getElem? (i := 18) rfl)
theorem wm_3_19 : Cond.methodLink RX5 11 yX2_init ∈ wsL_law := wsr_3 _ (List.mem_of_getElem? (i := 19) rfl)
theorem wm_3_20 : Cond.instanceMethod yX3_init ∈ wsL_law := wsr_3 _ (List.mem_of_getElem? (i := 20) rfl)
theorem wm_3_21 : Cond.code yX3_init cX3_init 1 none ∈ wsL_law := wsr_3 _ (List.mem_of_getElem? (i := 21) rfl)
theorem wm_3_22 : Cond.methodLink RX3 3 objectInit ∈ wsL_law := wsr_3 _ (List.mem_of_getElem? (i := 22) rfl)
theorem wm_3_23 : Cond.fieldLink RX3 9 "AbbeyNotes$Settling" "due" "[I" ∈ wsL_law := wsr_3 _ (List.mem_of_getElem? (i := 23) rfl)
theorem wm_4_0 : Cond.fieldLink RX3 15 "AbbeyNotes$Settling" "groups" "[I" ∈ wsL_law := wsr_4 _ (List.mem_of_getElem? (i := 0) rfl)
theorem wm_4_1 : Cond.instanceMethod yX6_init ∈ wsL_law := wsr_4 _ (List.mem_of_getElem? (i := 1) rfl)
theorem wm_4_2 : Cond.code yX6_init cX6_init 1 none ∈ wsL_law := wsr_4 _ (List.mem_of_getElem? (i := 2) rfl)
theorem wm_4_3 : Cond.methodLink RX6 3 objectInit ∈ wsL_law := wsr_4 _ (List.mem_of_getElem? (i := 3) rfl)
theorem wm_4_4 : Cond.classLink RX6 11 "[[J" ∈ wsL_law := wsr_4 _ (List.mem_of_getElem? (i := 4) rfl)
theorem wm_4_5 : Cond.arrayClass .long ∈ wsL_law := wsr_4 _ (List.mem_of_getElem? (i := 5) rfl)
theorem wm_4_6 : Cond.fieldLink RX6 13 "AbbeyNotes$Waiting" "means" "[[J" ∈ wsL_law := wsr_4 _ (List.mem_of_getElem? (i := 6) rfl)
theorem wm_4_7 : Cond.instanceMethod yX0_init ∈ wsL_law := wsr_4 _ (List.mem_of_getElem? (i := 7) rfl)
theorem wm_4_8 : Cond.code yX0_init cX0_init 1 none ∈ wsL_law := wsr_4 _ (List.mem_of_getElem? (i := 8) rfl)
theorem wm_4_9 : Cond.methodLink RX0 1 objectInit ∈ wsL_law := wsr_4 _ (List.mem_of_getElem? (i := 9) rfl)
theorem wm_4_10 : Cond.classLink RX0 7 RX2 ∈ wsL_law := wsr_4 _ (List.mem_of_getElem? (i := 10) rfl)
theorem wm_4_11 : Cond.fieldLink RX0 10 "AbbeyNotes$Image" "realm" "LAbbeyNotes$Realm;" ∈ wsL_law := wsr_4 _ (List.mem_of_getElem? (i := 11) rfl)
theorem wm_4_12 : Cond.classLink RX0 16 RX4 ∈ wsL_law := wsr_4 _ (List.mem_of_getElem? (i := 12) rfl)
theorem wm_4_13 : Cond.fieldLink RX0 19 "AbbeyNotes$Image" "sights" "LAbbeyNotes$Sights;" ∈ wsL_law := wsr_4 _ (List.mem_of_getElem? (i := 13) rfl)
theorem wm_4_14 : Cond.methodLink RX0 9 yX2_init ∈ wsL_law := wsr_4 _ (List.mem_of_getElem? (i := 14) rfl)
theorem wm_4_15 : Cond.methodLink RL 12 yX8_init ∈ wsL_law := wsr_4 _ (List.mem_of_getElem? (i := 15) rfl)
theorem wm_4_16 : Cond.instanceMethod yX8_init ∈ wsL_law := wsr_4 _ (List.mem_of_getElem? (i := 16) rfl)
theorem wm_4_17 : Cond.code yX8_init cX8_init 2 none ∈ wsL_law := wsr_4 _ (List.mem_of_getElem? (i := 17) rfl)
theorem wm_4_18 : Cond.methodLink RX8 1 objectInit ∈ wsL_law := wsr_4 _ (List.mem_of_getElem? (i := 18) rfl)
theorem wm_4_19 : Cond.fieldLink RX8 7 "AbbeyNotesModel" "paper" "[I" ∈ wsL_law := wsr_4 _ (List.mem_of_getElem? (i := 19) rfl)
theorem wm_4_20 : Cond.fieldLink RX8 13 "AbbeyNotesModel" "coin" "[I" ∈ wsL_law := wsr_4 _ (List.mem_of_getElem? (i := 20) rfl)
theorem wm_4_21 : Cond.fieldLink RX8 16 "AbbeyNotesModel" "owes" "[I" ∈ wsL_law := wsr_4 _ (List.mem_of_getElem? (i := 21) rfl)
theorem wm_4_22 : Cond.fieldLink RX8 19 "AbbeyNotesModel" "price" "[I" ∈ wsL_law := wsr_4 _ (List.mem_of_getElem? (i := 22) rfl)
theorem wm_4_23 : Cond.fieldLink RX8 22 "AbbeyNotesModel" "owner" "[I" ∈ wsL_law := wsr_4 _ (List.mem_of_getElem? (i := 23) rfl)
theorem wm_5_0 : Cond.fieldLink RX8 25 "AbbeyNotesModel" "sightSet" "[I" ∈ wsL_law := wsr_5 _ (List.mem_of_getElem? (i := 0) rfl)
theorem wm_5_1 : Cond.fieldLink RX8 28 "AbbeyNotesModel" "sightMany" "[I" ∈ wsL_law := wsr_5 _ (List.mem_of_getElem? (i := 1) rfl)
theorem wm_5_2 : Cond.fieldLink RX8 31 "AbbeyNotesModel" "sightHow" "[I" ∈ wsL_law := wsr_5 _ (List.mem_of_getElem? (i := 2) rfl)
theorem wm_5_3 : Cond.fieldLink RX8 34 "AbbeyNotesModel" "pad" "[I" ∈ wsL_law := wsr_5 _ (List.mem_of_getElem? (i := 3) rfl)
theorem wm_5_4 : Cond.fieldLink RX8 37 "AbbeyNotesModel" "act" "[I" ∈ wsL_law := wsr_5 _ (List.mem_of_getElem? (i := 4) rfl)
theorem wm_5_5 : Cond.fieldLink RX8 40 "AbbeyNotesModel" "who" "[I" ∈ wsL_law := wsr_5 _ (List.mem_of_getElem? (i := 5) rfl)
theorem wm_5_6 : Cond.fieldLink RX8 43 "AbbeyNotesModel" "much" "[I" ∈ wsL_law := wsr_5 _ (List.mem_of_getElem? (i := 6) rfl)
theorem wm_5_7 : Cond.fieldLink RX8 46 "AbbeyNotesModel" "had" "[I" ∈ wsL_law := wsr_5 _ (List.mem_of_getElem? (i := 7) rfl)
theorem wm_5_8 : Cond.fieldLink RX8 49 "AbbeyNotesModel" "endRate" "[I" ∈ wsL_law := wsr_5 _ (List.mem_of_getElem? (i := 8) rfl)
theorem wm_5_9 : Cond.fieldLink RX8 52 "AbbeyNotesModel" "net" "[I" ∈ wsL_law := wsr_5 _ (List.mem_of_getElem? (i := 9) rfl)
theorem wm_5_10 : Cond.fieldLink RX8 55 "AbbeyNotesModel" "evenSets" "[I" ∈ wsL_law := wsr_5 _ (List.mem_of_getElem? (i := 10) rfl)
theorem wm_5_11 : Cond.fieldLink RX8 58 "AbbeyNotesModel" "row" "[I" ∈ wsL_law := wsr_5 _ (List.mem_of_getElem? (i := 11) rfl)
theorem wm_5_12 : Cond.fieldLink RX8 61 "AbbeyNotesModel" "brings" "[J" ∈ wsL_law := wsr_5 _ (List.mem_of_getElem? (i := 12) rfl)
theorem wm_5_13 : Cond.fieldLink RX8 65 "AbbeyNotesModel" "bringsThen" "[J" ∈ wsL_law := wsr_5 _ (List.mem_of_getElem? (i := 13) rfl)
theorem wm_5_14 : Cond.fieldLink RX8 68 "AbbeyNotesModel" "choose" "[J" ∈ wsL_law := wsr_5 _ (List.mem_of_getElem? (i := 14) rfl)
theorem wm_5_15 : Cond.fieldLink RX8 71 "AbbeyNotesModel" "kept" "[I" ∈ wsL_law := wsr_5 _ (List.mem_of_getElem? (i := 15) rfl)
theorem wm_5_16 : Cond.arrayClass .boolean ∈ wsL_law := wsr_5 _ (List.mem_of_getElem? (i := 16) rfl)
theorem wm_5_17 : Cond.fieldLink RX8 74 "AbbeyNotesModel" "isKept" "[Z" ∈ wsL_law := wsr_5 _ (List.mem_of_getElem? (i := 17) rfl)
theorem wm_5_18 : Cond.methodLink RL 13 yX7_one ∈ wsL_law := wsr_5 _ (List.mem_of_getElem? (i := 18) rfl)
theorem wm_5_19 : Cond.instanceMethod yX7_one ∈ wsL_law := wsr_5 _ (List.mem_of_getElem? (i := 19) rfl)
theorem wm_5_20 : Cond.selects RX7 yX7_one yX7_one ∈ wsL_law := wsr_5 _ (List.mem_of_getElem? (i := 20) rfl)
theorem wm_5_21 : Cond.code yX7_one cX7_one 5 (some .int) ∈ wsL_law := wsr_5 _ (List.mem_of_getElem? (i := 21) rfl)
theorem wm_5_22 : Cond.fieldLink RX7 66 "AbbeyNotes$Realm" "paper" "[I" ∈ wsL_law := wsr_5 _ (List.mem_of_getElem? (i := 22) rfl)
theorem wm_5_23 : Cond.fieldLink RX7 70 "AbbeyNotes$Realm" "coin" "[I" ∈ wsL_law := wsr_5 _ (List.mem_of_getElem? (i := 23) rfl)
theorem wm_6_0 : Cond.methodLink RX7 58 yX7_isOne ∈ wsL_law := wsr_6 _ (List.mem_of_getElem? (i := 0) rfl)
theorem wm_6_1 : Cond.static yX7_isOne ∈ wsL_law := wsr_6 _ (List.mem_of_getElem? (i := 1) rfl)
theorem wm_6_2 : Cond.code yX7_isOne cX7_isOne 1 (some .boolean) ∈ wsL_law := wsr_6 _ (List.mem_of_getElem? (i := 2) rfl)
theorem wm_6_3 : Cond.methodLink RX7 62 yX7_within ∈ wsL_law := wsr_6 _ (List.mem_of_getElem? (i := 3) rfl)
theorem wm_6_4 : Cond.static yX7_within ∈ wsL_law := wsr_6 _ (List.mem_of_getElem? (i := 4) rfl)
theorem wm_6_5 : Cond.code yX7_within cX7_within 3 (some .boolean) ∈ wsL_law := wsr_6 _ (List.mem_of_getElem? (i := 5) rfl)
theorem wm_6_6 : Cond.methodLink RL 17 yX8_one ∈ wsL_law := wsr_6 _ (List.mem_of_getElem? (i := 6) rfl)
theorem wm_6_7 : Cond.instanceMethod yX8_one ∈ wsL_law := wsr_6 _ (List.mem_of_getElem? (i := 7) rfl)
theorem wm_6_8 : Cond.selects RX8 yX8_one yX8_one ∈ wsL_law := wsr_6 _ (List.mem_of_getElem? (i := 8) rfl)
theorem wm_6_9 : Cond.code yX8_one cX8_one 5 (some .int) ∈ wsL_law := wsr_6 _ (List.mem_of_getElem? (i := 9) rfl)
theorem wm_6_10 : Cond.constantLong RX8 88 (9999) ∈ wsL_law := wsr_6 _ (List.mem_of_getElem? (i := 10) rfl)
theorem wm_6_11 : Cond.methodLink RX8 84 yX8_isOne ∈ wsL_law := wsr_6 _ (List.mem_of_getElem? (i := 11) rfl)
theorem wm_6_12 : Cond.static yX8_isOne ∈ wsL_law := wsr_6 _ (List.mem_of_getElem? (i := 12) rfl)
theorem wm_6_13 : Cond.code yX8_isOne cX8_isOne 1 (some .boolean) ∈ wsL_law := wsr_6 _ (List.mem_of_getElem? (i := 13) rfl)
theorem wm_6_14 : Cond.constantLong RX8 78 (5) ∈ wsL_law := wsr_6 _ (List.mem_of_getElem? (i := 14) rfl)
theorem wm_6_15 : Cond.methodLink RX8 80 yX8_in ∈ wsL_law := wsr_6 _ (List.mem_of_getElem? (i := 15) rfl)
theorem wm_6_16 : Cond.static yX8_in ∈ wsL_law := wsr_6 _ (List.mem_of_getElem? (i := 16) rfl)
theorem wm_6_17 : Cond.code yX8_in cX8_in 6 (some .boolean) ∈ wsL_law := wsr_6 _ (List.mem_of_getElem? (i := 17) rfl)
theorem wm_6_18 : Cond.methodLink RL 18 yX7_owe ∈ wsL_law := wsr_6 _ (List.mem_of_getElem? (i := 18) rfl)
theorem wm_6_19 : Cond.instanceMethod yX7_owe ∈ wsL_law := wsr_6 _ (List.mem_of_getElem? (i := 19) rfl)
theorem wm_6_20 : Cond.selects RX7 yX7_owe yX7_owe ∈ wsL_law := wsr_6 _ (List.mem_of_getElem? (i := 20) rfl)
theorem wm_6_21 : Cond.code yX7_owe cX7_owe 5 (some .int) ∈ wsL_law := wsr_6 _ (List.mem_of_getElem? (i := 21) rfl)
theorem wm_6_22 : Cond.fieldLink RX7 73 "AbbeyNotes$Realm" "owes" "[[I" ∈ wsL_law := wsr_6 _ (List.mem_of_getElem? (i := 22) rfl)
theorem wm_6_23 : Cond.methodLink RL 21 yX8_owe ∈ wsL_law := wsr_6 _ (List.mem_of_getElem? (i := 23) rfl)
theorem wm_7_0 : Cond.instanceMethod yX8_owe ∈ wsL_law := wsr_7 _ (List.mem_of_getElem? (i := 0) rfl)
theorem wm_7_1 : Cond.selects RX8 yX8_owe yX8_owe ∈ wsL_law := wsr_7 _ (List.mem_of_getElem? (i := 1) rfl)
theorem wm_7_2 : Cond.code yX8_owe cX8_owe 5 (some .int) ∈ wsL_law := wsr_7 _ (List.mem_of_getElem? (i := 2) rfl)
theorem wm_7_3 : Cond.constantLong RX8 90 (999) ∈ wsL_law := wsr_7 _ (List.mem_of_getElem? (i := 3) rfl)
theorem wm_7_4 : Cond.methodLink RL 22 yX7_lot ∈ wsL_law := wsr_7 _ (List.mem_of_getElem? (i := 4) rfl)
theorem wm_7_5 : Cond.instanceMethod yX7_lot ∈ wsL_law := wsr_7 _ (List.mem_of_getElem? (i := 5) rfl)
theorem wm_7_6 : Cond.selects RX7 yX7_lot yX7_lot ∈ wsL_law := wsr_7 _ (List.mem_of_getElem? (i := 6) rfl)
theorem wm_7_7 : Cond.code yX7_lot cX7_lot 5 (some .int) ∈ wsL_law := wsr_7 _ (List.mem_of_getElem? (i := 7) rfl)
theorem wm_7_8 : Cond.fieldLink RX7 77 "AbbeyNotes$Realm" "price" "[I" ∈ wsL_law := wsr_7 _ (List.mem_of_getElem? (i := 8) rfl)
theorem wm_7_9 : Cond.fieldLink RX7 80 "AbbeyNotes$Realm" "owner" "[I" ∈ wsL_law := wsr_7 _ (List.mem_of_getElem? (i := 9) rfl)
theorem wm_7_10 : Cond.methodLink RL 25 yX8_lot ∈ wsL_law := wsr_7 _ (List.mem_of_getElem? (i := 10) rfl)
theorem wm_7_11 : Cond.instanceMethod yX8_lot ∈ wsL_law := wsr_7 _ (List.mem_of_getElem? (i := 11) rfl)
theorem wm_7_12 : Cond.selects RX8 yX8_lot yX8_lot ∈ wsL_law := wsr_7 _ (List.mem_of_getElem? (i := 12) rfl)
theorem wm_7_13 : Cond.code yX8_lot cX8_lot 5 (some .int) ∈ wsL_law := wsr_7 _ (List.mem_of_getElem? (i := 13) rfl)
theorem wm_7_14 : Cond.constantLong RX8 92 (7) ∈ wsL_law := wsr_7 _ (List.mem_of_getElem? (i := 14) rfl)
theorem wm_7_15 : Cond.constantLong RX8 94 (-1) ∈ wsL_law := wsr_7 _ (List.mem_of_getElem? (i := 15) rfl)
theorem wm_7_16 : Cond.methodLink RL 26 yX7_set ∈ wsL_law := wsr_7 _ (List.mem_of_getElem? (i := 16) rfl)
theorem wm_7_17 : Cond.instanceMethod yX7_set ∈ wsL_law := wsr_7 _ (List.mem_of_getElem? (i := 17) rfl)
theorem wm_7_18 : Cond.selects RX7 yX7_set yX7_set ∈ wsL_law := wsr_7 _ (List.mem_of_getElem? (i := 18) rfl)
theorem wm_7_19 : Cond.code yX7_set cX7_set 4 (some .int) ∈ wsL_law := wsr_7 _ (List.mem_of_getElem? (i := 19) rfl)
theorem wm_7_20 : Cond.constant RX7 83 (99999) ∈ wsL_law := wsr_7 _ (List.mem_of_getElem? (i := 20) rfl)
theorem wm_7_21 : Cond.fieldLink RX7 84 "AbbeyNotes$Realm" "statePaper" "I" ∈ wsL_law := wsr_7 _ (List.mem_of_getElem? (i := 21) rfl)
theorem wm_7_22 : Cond.fieldLink RX7 88 "AbbeyNotes$Realm" "forged" "I" ∈ wsL_law := wsr_7 _ (List.mem_of_getElem? (i := 22) rfl)
theorem wm_7_23 : Cond.methodLink RL 30 yX8_set ∈ wsL_law := wsr_7 _ (List.mem_of_getElem? (i := 23) rfl)
theorem wm_8_0 : Cond.instanceMethod yX8_set ∈ wsL_law := wsr_8 _ (List.mem_of_getElem? (i := 0) rfl)
theorem wm_8_1 : Cond.selects RX8 yX8_set yX8_set ∈ wsL_law := wsr_8 _ (List.mem_of_getElem? (i := 1) rfl)
theorem wm_8_2 : Cond.code yX8_set cX8_set 4 (some .int) ∈ wsL_law := wsr_8 _ (List.mem_of_getElem? (i := 2) rfl)
theorem wm_8_3 : Cond.constantLong RX8 96 (99999) ∈ wsL_law := wsr_8 _ (List.mem_of_getElem? (i := 3) rfl)
theorem wm_8_4 : Cond.fieldLink RX8 98 "AbbeyNotesModel" "chest" "I" ∈ wsL_law := wsr_8 _ (List.mem_of_getElem? (i := 4) rfl)
theorem wm_8_5 : Cond.fieldLink RX8 102 "AbbeyNotesModel" "forged" "I" ∈ wsL_law := wsr_8 _ (List.mem_of_getElem? (i := 5) rfl)
theorem wm_8_6 : Cond.methodLink RL 31 yX7_say ∈ wsL_law := wsr_8 _ (List.mem_of_getElem? (i := 6) rfl)
theorem wm_8_7 : Cond.instanceMethod yX7_say ∈ wsL_law := wsr_8 _ (List.mem_of_getElem? (i := 7) rfl)
theorem wm_8_8 : Cond.selects RX7 yX7_say yX7_say ∈ wsL_law := wsr_8 _ (List.mem_of_getElem? (i := 8) rfl)
theorem wm_8_9 : Cond.code yX7_say cX7_say 2 (some .int) ∈ wsL_law := wsr_8 _ (List.mem_of_getElem? (i := 9) rfl)
theorem wm_8_10 : Cond.fieldLink RX7 91 "AbbeyNotes$Pad" "size" "I" ∈ wsL_law := wsr_8 _ (List.mem_of_getElem? (i := 10) rfl)
theorem wm_8_11 : Cond.methodLink RX7 94 yX1_add ∈ wsL_law := wsr_8 _ (List.mem_of_getElem? (i := 11) rfl)
theorem wm_8_12 : Cond.instanceMethod yX1_add ∈ wsL_law := wsr_8 _ (List.mem_of_getElem? (i := 12) rfl)
theorem wm_8_13 : Cond.selects RX1 yX1_add yX1_add ∈ wsL_law := wsr_8 _ (List.mem_of_getElem? (i := 13) rfl)
theorem wm_8_14 : Cond.code yX1_add cX1_add 2 none ∈ wsL_law := wsr_8 _ (List.mem_of_getElem? (i := 14) rfl)
theorem wm_8_15 : Cond.fieldLink RX1 15 "AbbeyNotes$Pad" "size" "I" ∈ wsL_law := wsr_8 _ (List.mem_of_getElem? (i := 15) rfl)
theorem wm_8_16 : Cond.methodLink RL 35 yX8_say ∈ wsL_law := wsr_8 _ (List.mem_of_getElem? (i := 16) rfl)
theorem wm_8_17 : Cond.instanceMethod yX8_say ∈ wsL_law := wsr_8 _ (List.mem_of_getElem? (i := 17) rfl)
theorem wm_8_18 : Cond.selects RX8 yX8_say yX8_say ∈ wsL_law := wsr_8 _ (List.mem_of_getElem? (i := 18) rfl)
theorem wm_8_19 : Cond.code yX8_say cX8_say 2 (some .int) ∈ wsL_law := wsr_8 _ (List.mem_of_getElem? (i := 19) rfl)
theorem wm_8_20 : Cond.constantLong RX8 105 (33) ∈ wsL_law := wsr_8 _ (List.mem_of_getElem? (i := 20) rfl)
theorem wm_8_21 : Cond.constantLong RX8 107 (126) ∈ wsL_law := wsr_8 _ (List.mem_of_getElem? (i := 21) rfl)
theorem wm_8_22 : Cond.fieldLink RX8 109 "AbbeyNotesModel" "padMany" "I" ∈ wsL_law := wsr_8 _ (List.mem_of_getElem? (i := 22) rfl)
theorem wm_8_23 : Cond.methodLink RL 36 yX7_wipe ∈ wsL_law := wsr_8 _ (List.mem_of_getElem? (i := 23) rfl)
theorem wm_9_0 : Cond.instanceMethod yX7_wipe ∈ wsL_law := wsr_9 _ (List.mem_of_getElem? (i := 0) rfl)
theorem wm_9_1 : Cond.selects RX7 yX7_wipe yX7_wipe ∈ wsL_law := wsr_9 _ (List.mem_of_getElem? (i := 1) rfl)
theorem wm_9_2 : Cond.code yX7_wipe cX7_wipe 2 (some .int) ∈ wsL_law := wsr_9 _ (List.mem_of_getElem? (i := 2) rfl)
theorem wm_9_3 : Cond.methodLink RL 40 yX8_wipe ∈ wsL_law := wsr_9 _ (List.mem_of_getElem? (i := 3) rfl)
theorem wm_9_4 : Cond.instanceMethod yX8_wipe ∈ wsL_law := wsr_9 _ (List.mem_of_getElem? (i := 4) rfl)
theorem wm_9_5 : Cond.selects RX8 yX8_wipe yX8_wipe ∈ wsL_law := wsr_9 _ (List.mem_of_getElem? (i := 5) rfl)
theorem wm_9_6 : Cond.code yX8_wipe cX8_wipe 2 (some .int) ∈ wsL_law := wsr_9 _ (List.mem_of_getElem? (i := 6) rfl)
theorem wm_9_7 : Cond.methodLink RL 41 yX7_fault ∈ wsL_law := wsr_9 _ (List.mem_of_getElem? (i := 7) rfl)
theorem wm_9_8 : Cond.instanceMethod yX7_fault ∈ wsL_law := wsr_9 _ (List.mem_of_getElem? (i := 8) rfl)
theorem wm_9_9 : Cond.selects RX7 yX7_fault yX7_fault ∈ wsL_law := wsr_9 _ (List.mem_of_getElem? (i := 9) rfl)
theorem wm_9_10 : Cond.code yX7_fault cX7_fault 1 (some .int) ∈ wsL_law := wsr_9 _ (List.mem_of_getElem? (i := 10) rfl)
theorem wm_9_11 : Cond.methodLink RX7 98 yX1_faultPlace ∈ wsL_law := wsr_9 _ (List.mem_of_getElem? (i := 11) rfl)
theorem wm_9_12 : Cond.instanceMethod yX1_faultPlace ∈ wsL_law := wsr_9 _ (List.mem_of_getElem? (i := 12) rfl)
theorem wm_9_13 : Cond.selects RX1 yX1_faultPlace yX1_faultPlace ∈ wsL_law := wsr_9 _ (List.mem_of_getElem? (i := 13) rfl)
theorem wm_9_14 : Cond.code yX1_faultPlace cX1_faultPlace 3 (some .int) ∈ wsL_law := wsr_9 _ (List.mem_of_getElem? (i := 14) rfl)
theorem wm_9_15 : Cond.methodLink RX1 19 yX1_nextBehind ∈ wsL_law := wsr_9 _ (List.mem_of_getElem? (i := 15) rfl)
theorem wm_9_16 : Cond.static yX1_nextBehind ∈ wsL_law := wsr_9 _ (List.mem_of_getElem? (i := 16) rfl)
theorem wm_9_17 : Cond.code yX1_nextBehind cX1_nextBehind 2 (some .int) ∈ wsL_law := wsr_9 _ (List.mem_of_getElem? (i := 17) rfl)
theorem wm_9_18 : Cond.methodLink RX1 23 yX1_nextBehindFirst ∈ wsL_law := wsr_9 _ (List.mem_of_getElem? (i := 18) rfl)
theorem wm_9_19 : Cond.static yX1_nextBehindFirst ∈ wsL_law := wsr_9 _ (List.mem_of_getElem? (i := 19) rfl)
theorem wm_9_20 : Cond.code yX1_nextBehindFirst cX1_nextBehindFirst 1 (some .int) ∈ wsL_law := wsr_9 _ (List.mem_of_getElem? (i := 20) rfl)
theorem wm_9_21 : Cond.methodLink RX1 31 yX1_isLetter ∈ wsL_law := wsr_9 _ (List.mem_of_getElem? (i := 21) rfl)
theorem wm_9_22 : Cond.static yX1_isLetter ∈ wsL_law := wsr_9 _ (List.mem_of_getElem? (i := 22) rfl)
theorem wm_9_23 : Cond.code yX1_isLetter cX1_isLetter 1 (some .boolean) ∈ wsL_law := wsr_9 _ (List.mem_of_getElem? (i := 23) rfl)
theorem wm_10_0 : Cond.methodLink RX1 35 yX1_nextBehindDeed ∈ wsL_law := wsr_10 _ (List.mem_of_getElem? (i := 0) rfl)
theorem wm_10_1 : Cond.static yX1_nextBehindDeed ∈ wsL_law := wsr_10 _ (List.mem_of_getElem? (i := 1) rfl)
theorem wm_10_2 : Cond.code yX1_nextBehindDeed cX1_nextBehindDeed 1 (some .int) ∈ wsL_law := wsr_10 _ (List.mem_of_getElem? (i := 2) rfl)
theorem wm_10_3 : Cond.methodLink RL 44 yX8_fault ∈ wsL_law := wsr_10 _ (List.mem_of_getElem? (i := 3) rfl)
theorem wm_10_4 : Cond.instanceMethod yX8_fault ∈ wsL_law := wsr_10 _ (List.mem_of_getElem? (i := 4) rfl)
theorem wm_10_5 : Cond.selects RX8 yX8_fault yX8_fault ∈ wsL_law := wsr_10 _ (List.mem_of_getElem? (i := 5) rfl)
theorem wm_10_6 : Cond.code yX8_fault cX8_fault 3 (some .int) ∈ wsL_law := wsr_10 _ (List.mem_of_getElem? (i := 6) rfl)
theorem wm_10_7 : Cond.fieldLink RX8 112 "AbbeyNotesModel" "acts" "I" ∈ wsL_law := wsr_10 _ (List.mem_of_getElem? (i := 7) rfl)
theorem wm_10_8 : Cond.methodLink RX8 148 yX8_readOn ∈ wsL_law := wsr_10 _ (List.mem_of_getElem? (i := 8) rfl)
theorem wm_10_9 : Cond.instanceMethod yX8_readOn ∈ wsL_law := wsr_10 _ (List.mem_of_getElem? (i := 9) rfl)
theorem wm_10_10 : Cond.selects RX8 yX8_readOn yX8_readOn ∈ wsL_law := wsr_10 _ (List.mem_of_getElem? (i := 10) rfl)
theorem wm_10_11 : Cond.code yX8_readOn cX8_readOn 3 (some .int) ∈ wsL_law := wsr_10 _ (List.mem_of_getElem? (i := 11) rfl)
theorem wm_10_12 : Cond.constantLong RX8 144 (48) ∈ wsL_law := wsr_10 _ (List.mem_of_getElem? (i := 12) rfl)
theorem wm_10_13 : Cond.constantLong RX8 146 (55) ∈ wsL_law := wsr_10 _ (List.mem_of_getElem? (i := 13) rfl)
theorem wm_10_14 : Cond.methodLink RX8 130 yX8_begin ∈ wsL_law := wsr_10 _ (List.mem_of_getElem? (i := 14) rfl)
theorem wm_10_15 : Cond.instanceMethod yX8_begin ∈ wsL_law := wsr_10 _ (List.mem_of_getElem? (i := 15) rfl)
theorem wm_10_16 : Cond.selects RX8 yX8_begin yX8_begin ∈ wsL_law := wsr_10 _ (List.mem_of_getElem? (i := 16) rfl)
theorem wm_10_17 : Cond.code yX8_begin cX8_begin 2 (some .int) ∈ wsL_law := wsr_10 _ (List.mem_of_getElem? (i := 17) rfl)
theorem wm_10_18 : Cond.methodLink RX8 119 yX8_isLetter ∈ wsL_law := wsr_10 _ (List.mem_of_getElem? (i := 18) rfl)
theorem wm_10_19 : Cond.static yX8_isLetter ∈ wsL_law := wsr_10 _ (List.mem_of_getElem? (i := 19) rfl)
theorem wm_10_20 : Cond.code yX8_isLetter cX8_isLetter 1 (some .boolean) ∈ wsL_law := wsr_10 _ (List.mem_of_getElem? (i := 20) rfl)
theorem wm_10_21 : Cond.constantLong RX8 115 (65) ∈ wsL_law := wsr_10 _ (List.mem_of_getElem? (i := 21) rfl)
theorem wm_10_22 : Cond.constantLong RX8 117 (70) ∈ wsL_law := wsr_10 _ (List.mem_of_getElem? (i := 22) rfl)
theorem wm_10_23 : Cond.methodLink RX8 122 yX8_close ∈ wsL_law := wsr_10 _ (List.mem_of_getElem? (i := 23) rfl)
theorem wm_11_0 : Cond.instanceMethod yX8_close ∈ wsL_law := wsr_11 _ (List.mem_of_getElem? (i := 0) rfl)
theorem wm_11_1 : Cond.selects RX8 yX8_close yX8_close ∈ wsL_law := wsr_11 _ (List.mem_of_getElem? (i := 1) rfl)
theorem wm_11_2 : Cond.code yX8_close cX8_close 3 (some .int) ∈ wsL_law := wsr_11 _ (List.mem_of_getElem? (i := 2) rfl)
theorem wm_11_3 : Cond.methodLink RX8 134 yX8_deed ∈ wsL_law := wsr_11 _ (List.mem_of_getElem? (i := 3) rfl)
theorem wm_11_4 : Cond.static yX8_deed ∈ wsL_law := wsr_11 _ (List.mem_of_getElem? (i := 4) rfl)
theorem wm_11_5 : Cond.code yX8_deed cX8_deed 1 (some .int) ∈ wsL_law := wsr_11 _ (List.mem_of_getElem? (i := 5) rfl)
theorem wm_11_6 : Cond.methodLink RX8 137 yX8_number ∈ wsL_law := wsr_11 _ (List.mem_of_getElem? (i := 6) rfl)
theorem wm_11_7 : Cond.instanceMethod yX8_number ∈ wsL_law := wsr_11 _ (List.mem_of_getElem? (i := 7) rfl)
theorem wm_11_8 : Cond.selects RX8 yX8_number yX8_number ∈ wsL_law := wsr_11 _ (List.mem_of_getElem? (i := 8) rfl)
theorem wm_11_9 : Cond.code yX8_number cX8_number 4 (some .int) ∈ wsL_law := wsr_11 _ (List.mem_of_getElem? (i := 9) rfl)
theorem wm_11_10 : Cond.constantLong RX8 126 (49) ∈ wsL_law := wsr_11 _ (List.mem_of_getElem? (i := 10) rfl)
theorem wm_11_11 : Cond.constantLong RX8 128 (57) ∈ wsL_law := wsr_11 _ (List.mem_of_getElem? (i := 11) rfl)
theorem wm_11_12 : Cond.methodLink RX8 141 yX8_forWhom ∈ wsL_law := wsr_11 _ (List.mem_of_getElem? (i := 12) rfl)
theorem wm_11_13 : Cond.instanceMethod yX8_forWhom ∈ wsL_law := wsr_11 _ (List.mem_of_getElem? (i := 13) rfl)
theorem wm_11_14 : Cond.selects RX8 yX8_forWhom yX8_forWhom ∈ wsL_law := wsr_11 _ (List.mem_of_getElem? (i := 14) rfl)
theorem wm_11_15 : Cond.code yX8_forWhom cX8_forWhom 2 (some .int) ∈ wsL_law := wsr_11 _ (List.mem_of_getElem? (i := 15) rfl)
theorem wm_11_16 : Cond.methodLink RL 45 yX7_judge ∈ wsL_law := wsr_11 _ (List.mem_of_getElem? (i := 16) rfl)
theorem wm_11_17 : Cond.instanceMethod yX7_judge ∈ wsL_law := wsr_11 _ (List.mem_of_getElem? (i := 17) rfl)
theorem wm_11_18 : Cond.selects RX7 yX7_judge yX7_judge ∈ wsL_law := wsr_11 _ (List.mem_of_getElem? (i := 18) rfl)
theorem wm_11_19 : Cond.code yX7_judge cX7_judge 3 (some .int) ∈ wsL_law := wsr_11 _ (List.mem_of_getElem? (i := 19) rfl)
theorem wm_11_20 : Cond.fieldLink RX7 106 "AbbeyNotes$Trial" "ended" "I" ∈ wsL_law := wsr_11 _ (List.mem_of_getElem? (i := 20) rfl)
theorem wm_11_21 : Cond.fieldLink RX7 109 "AbbeyNotes$Trial" "why" "I" ∈ wsL_law := wsr_11 _ (List.mem_of_getElem? (i := 21) rfl)
theorem wm_11_22 : Cond.fieldLink RX7 112 "AbbeyNotes$Trial" "acts" "I" ∈ wsL_law := wsr_11 _ (List.mem_of_getElem? (i := 22) rfl)
theorem wm_11_23 : Cond.methodLink RX7 102 yX7_tryMonths ∈ wsL_law := wsr_11 _ (List.mem_of_getElem? (i := 23) rfl)
theorem wm_12_0 : Cond.instanceMethod yX7_tryMonths ∈ wsL_law := wsr_12 _ (List.mem_of_getElem? (i := 0) rfl)
theorem wm_12_1 : Cond.selects RX7 yX7_tryMonths yX7_tryMonths ∈ wsL_law := wsr_12 _ (List.mem_of_getElem? (i := 1) rfl)
theorem wm_12_2 : Cond.code yX7_tryMonths cX7_tryMonths 2 (some .int) ∈ wsL_law := wsr_12 _ (List.mem_of_getElem? (i := 2) rfl)
theorem wm_12_3 : Cond.methodLink RX7 153 yX5_follow ∈ wsL_law := wsr_12 _ (List.mem_of_getElem? (i := 3) rfl)
theorem wm_12_4 : Cond.instanceMethod yX5_follow ∈ wsL_law := wsr_12 _ (List.mem_of_getElem? (i := 4) rfl)
theorem wm_12_5 : Cond.selects RX5 yX5_follow yX5_follow ∈ wsL_law := wsr_12 _ (List.mem_of_getElem? (i := 5) rfl)
theorem wm_12_6 : Cond.code yX5_follow cX5_follow 5 none ∈ wsL_law := wsr_12 _ (List.mem_of_getElem? (i := 6) rfl)
theorem wm_12_7 : Cond.fieldLink RX5 22 "AbbeyNotes$Trial" "why" "I" ∈ wsL_law := wsr_12 _ (List.mem_of_getElem? (i := 7) rfl)
theorem wm_12_8 : Cond.fieldLink RX5 26 "AbbeyNotes$Trial" "ended" "I" ∈ wsL_law := wsr_12 _ (List.mem_of_getElem? (i := 8) rfl)
theorem wm_12_9 : Cond.fieldLink RX5 29 "AbbeyNotes$Trial" "fellIn" "I" ∈ wsL_law := wsr_12 _ (List.mem_of_getElem? (i := 9) rfl)
theorem wm_12_10 : Cond.fieldLink RX5 32 "AbbeyNotes$Trial" "acts" "I" ∈ wsL_law := wsr_12 _ (List.mem_of_getElem? (i := 10) rfl)
theorem wm_12_11 : Cond.fieldLink RX5 35 "AbbeyNotes$Pad" "size" "I" ∈ wsL_law := wsr_12 _ (List.mem_of_getElem? (i := 11) rfl)
theorem wm_12_12 : Cond.fieldLink RX5 44 "AbbeyNotes$Trial" "kind" "I" ∈ wsL_law := wsr_12 _ (List.mem_of_getElem? (i := 12) rfl)
theorem wm_12_13 : Cond.fieldLink RX5 47 "AbbeyNotes$Trial" "who" "I" ∈ wsL_law := wsr_12 _ (List.mem_of_getElem? (i := 13) rfl)
theorem wm_12_14 : Cond.fieldLink RX5 50 "AbbeyNotes$Trial" "number" "I" ∈ wsL_law := wsr_12 _ (List.mem_of_getElem? (i := 14) rfl)
theorem wm_12_15 : Cond.fieldLink RX5 61 "AbbeyNotes$Trial" "length" "I" ∈ wsL_law := wsr_12 _ (List.mem_of_getElem? (i := 15) rfl)
theorem wm_12_16 : Cond.methodLink RX5 18 yX2_copyFrom ∈ wsL_law := wsr_12 _ (List.mem_of_getElem? (i := 16) rfl)
theorem wm_12_17 : Cond.instanceMethod yX2_copyFrom ∈ wsL_law := wsr_12 _ (List.mem_of_getElem? (i := 17) rfl)
theorem wm_12_18 : Cond.selects RX2 yX2_copyFrom yX2_copyFrom ∈ wsL_law := wsr_12 _ (List.mem_of_getElem? (i := 18) rfl)
theorem wm_12_19 : Cond.code yX2_copyFrom cX2_copyFrom 3 none ∈ wsL_law := wsr_12 _ (List.mem_of_getElem? (i := 19) rfl)
theorem wm_12_20 : Cond.methodLink RX2 29 arraycopyName ∈ wsL_law := wsr_12 _ (List.mem_of_getElem? (i := 20) rfl)
theorem wm_12_21 : Cond.native arraycopyName ∈ wsL_law := wsr_12 _ (List.mem_of_getElem? (i := 21) rfl)
theorem wm_12_22 : Cond.static arraycopyName ∈ wsL_law := wsr_12 _ (List.mem_of_getElem? (i := 22) rfl)
theorem wm_12_23 : Cond.initialized "java/lang/System" ∈ wsL_law := wsr_12 _ (List.mem_of_getElem? (i := 23) rfl)
theorem wm_13_0 : Cond.fieldLink RX2 35 "AbbeyNotes$Realm" "statePaper" "I" ∈ wsL_law := wsr_13 _ (List.mem_of_getElem? (i := 0) rfl)
theorem wm_13_1 : Cond.fieldLink RX2 39 "AbbeyNotes$Realm" "forged" "I" ∈ wsL_law := wsr_13 _ (List.mem_of_getElem? (i := 1) rfl)
theorem wm_13_2 : Cond.fieldLink RX2 42 "AbbeyNotes$Realm" "burnt" "I" ∈ wsL_law := wsr_13 _ (List.mem_of_getElem? (i := 2) rfl)
theorem wm_13_3 : Cond.fieldLink RX2 45 "AbbeyNotes$Realm" "months" "I" ∈ wsL_law := wsr_13 _ (List.mem_of_getElem? (i := 3) rfl)
theorem wm_13_4 : Cond.methodLink RX5 40 yX5_read ∈ wsL_law := wsr_13 _ (List.mem_of_getElem? (i := 4) rfl)
theorem wm_13_5 : Cond.instanceMethod yX5_read ∈ wsL_law := wsr_13 _ (List.mem_of_getElem? (i := 5) rfl)
theorem wm_13_6 : Cond.selects RX5 yX5_read yX5_read ∈ wsL_law := wsr_13 _ (List.mem_of_getElem? (i := 6) rfl)
theorem wm_13_7 : Cond.code yX5_read cX5_read 5 none ∈ wsL_law := wsr_13 _ (List.mem_of_getElem? (i := 7) rfl)
theorem wm_13_8 : Cond.methodLink RX5 68 yX1_signAt ∈ wsL_law := wsr_13 _ (List.mem_of_getElem? (i := 8) rfl)
theorem wm_13_9 : Cond.instanceMethod yX1_signAt ∈ wsL_law := wsr_13 _ (List.mem_of_getElem? (i := 9) rfl)
theorem wm_13_10 : Cond.selects RX1 yX1_signAt yX1_signAt ∈ wsL_law := wsr_13 _ (List.mem_of_getElem? (i := 10) rfl)
theorem wm_13_11 : Cond.code yX1_signAt cX1_signAt 2 (some .int) ∈ wsL_law := wsr_13 _ (List.mem_of_getElem? (i := 11) rfl)
theorem wm_13_12 : Cond.methodLink RX5 72 yX5_kindOf ∈ wsL_law := wsr_13 _ (List.mem_of_getElem? (i := 12) rfl)
theorem wm_13_13 : Cond.static yX5_kindOf ∈ wsL_law := wsr_13 _ (List.mem_of_getElem? (i := 13) rfl)
theorem wm_13_14 : Cond.code yX5_kindOf cX5_kindOf 2 (some .int) ∈ wsL_law := wsr_13 _ (List.mem_of_getElem? (i := 14) rfl)
theorem wm_13_15 : Cond.methodLink RX5 76 yX5_kindOfDeed ∈ wsL_law := wsr_13 _ (List.mem_of_getElem? (i := 15) rfl)
theorem wm_13_16 : Cond.static yX5_kindOfDeed ∈ wsL_law := wsr_13 _ (List.mem_of_getElem? (i := 16) rfl)
theorem wm_13_17 : Cond.code yX5_kindOfDeed cX5_kindOfDeed 1 (some .int) ∈ wsL_law := wsr_13 _ (List.mem_of_getElem? (i := 17) rfl)
theorem wm_13_18 : Cond.methodLink RX5 53 yX2_act ∈ wsL_law := wsr_13 _ (List.mem_of_getElem? (i := 18) rfl)
theorem wm_13_19 : Cond.instanceMethod yX2_act ∈ wsL_law := wsr_13 _ (List.mem_of_getElem? (i := 19) rfl)
theorem wm_13_20 : Cond.selects RX2 yX2_act yX2_act ∈ wsL_law := wsr_13 _ (List.mem_of_getElem? (i := 20) rfl)
theorem wm_13_21 : Cond.code yX2_act cX2_act 4 (some .int) ∈ wsL_law := wsr_13 _ (List.mem_of_getElem? (i := 21) rfl)
theorem wm_13_22 : Cond.methodLink RX2 66 yX2_printed ∈ wsL_law := wsr_13 _ (List.mem_of_getElem? (i := 22) rfl)
theorem wm_13_23 : Cond.instanceMethod yX2_printed ∈ wsL_law := wsr_13 _ (List.mem_of_getElem? (i := 23) rfl)
theorem wm_14_0 : Cond.selects RX2 yX2_printed yX2_printed ∈ wsL_law := wsr_14 _ (List.mem_of_getElem? (i := 0) rfl)
theorem wm_14_1 : Cond.code yX2_printed cX2_printed 2 (some .int) ∈ wsL_law := wsr_14 _ (List.mem_of_getElem? (i := 1) rfl)
theorem wm_14_2 : Cond.constant RX2 87 (99999) ∈ wsL_law := wsr_14 _ (List.mem_of_getElem? (i := 2) rfl)
theorem wm_14_3 : Cond.methodLink RX2 69 yX2_paidByState ∈ wsL_law := wsr_14 _ (List.mem_of_getElem? (i := 3) rfl)
theorem wm_14_4 : Cond.instanceMethod yX2_paidByState ∈ wsL_law := wsr_14 _ (List.mem_of_getElem? (i := 4) rfl)
theorem wm_14_5 : Cond.selects RX2 yX2_paidByState yX2_paidByState ∈ wsL_law := wsr_14 _ (List.mem_of_getElem? (i := 5) rfl)
theorem wm_14_6 : Cond.code yX2_paidByState cX2_paidByState 3 (some .int) ∈ wsL_law := wsr_14 _ (List.mem_of_getElem? (i := 6) rfl)
theorem wm_14_7 : Cond.methodLink RX2 72 yX2_bought ∈ wsL_law := wsr_14 _ (List.mem_of_getElem? (i := 7) rfl)
theorem wm_14_8 : Cond.instanceMethod yX2_bought ∈ wsL_law := wsr_14 _ (List.mem_of_getElem? (i := 8) rfl)
theorem wm_14_9 : Cond.selects RX2 yX2_bought yX2_bought ∈ wsL_law := wsr_14 _ (List.mem_of_getElem? (i := 9) rfl)
theorem wm_14_10 : Cond.code yX2_bought cX2_bought 3 (some .int) ∈ wsL_law := wsr_14 _ (List.mem_of_getElem? (i := 10) rfl)
theorem wm_14_11 : Cond.methodLink RX2 75 yX2_exchanged ∈ wsL_law := wsr_14 _ (List.mem_of_getElem? (i := 11) rfl)
theorem wm_14_12 : Cond.instanceMethod yX2_exchanged ∈ wsL_law := wsr_14 _ (List.mem_of_getElem? (i := 12) rfl)
theorem wm_14_13 : Cond.selects RX2 yX2_exchanged yX2_exchanged ∈ wsL_law := wsr_14 _ (List.mem_of_getElem? (i := 13) rfl)
theorem wm_14_14 : Cond.code yX2_exchanged cX2_exchanged 4 (some .int) ∈ wsL_law := wsr_14 _ (List.mem_of_getElem? (i := 14) rfl)
theorem wm_14_15 : Cond.methodLink RX2 88 yX2_rate ∈ wsL_law := wsr_14 _ (List.mem_of_getElem? (i := 15) rfl)
theorem wm_14_16 : Cond.instanceMethod yX2_rate ∈ wsL_law := wsr_14 _ (List.mem_of_getElem? (i := 16) rfl)
theorem wm_14_17 : Cond.selects RX2 yX2_rate yX2_rate ∈ wsL_law := wsr_14 _ (List.mem_of_getElem? (i := 17) rfl)
theorem wm_14_18 : Cond.code yX2_rate cX2_rate 1 (some .int) ∈ wsL_law := wsr_14 _ (List.mem_of_getElem? (i := 18) rfl)
theorem wm_14_19 : Cond.methodLink RX2 48 yX2_land ∈ wsL_law := wsr_14 _ (List.mem_of_getElem? (i := 19) rfl)
theorem wm_14_20 : Cond.instanceMethod yX2_land ∈ wsL_law := wsr_14 _ (List.mem_of_getElem? (i := 20) rfl)
theorem wm_14_21 : Cond.selects RX2 yX2_land yX2_land ∈ wsL_law := wsr_14 _ (List.mem_of_getElem? (i := 21) rfl)
theorem wm_14_22 : Cond.code yX2_land cX2_land 3 (some .int) ∈ wsL_law := wsr_14 _ (List.mem_of_getElem? (i := 22) rfl)
theorem wm_14_23 : Cond.methodLink RX2 52 yX2_notes ∈ wsL_law := wsr_14 _ (List.mem_of_getElem? (i := 23) rfl)
theorem wm_15_0 : Cond.instanceMethod yX2_notes ∈ wsL_law := wsr_15 _ (List.mem_of_getElem? (i := 0) rfl)
theorem wm_15_1 : Cond.selects RX2 yX2_notes yX2_notes ∈ wsL_law := wsr_15 _ (List.mem_of_getElem? (i := 1) rfl)
theorem wm_15_2 : Cond.code yX2_notes cX2_notes 3 (some .int) ∈ wsL_law := wsr_15 _ (List.mem_of_getElem? (i := 2) rfl)
theorem wm_15_3 : Cond.static yX7_rateOf ∈ wsL_law := wsr_15 _ (List.mem_of_getElem? (i := 3) rfl)
theorem wm_15_4 : Cond.code yX7_rateOf cX7_rateOf 2 (some .int) ∈ wsL_law := wsr_15 _ (List.mem_of_getElem? (i := 4) rfl)
theorem wm_15_5 : Cond.methodLink RX7 157 Lib.Math.min.name ∈ wsL_law := wsr_15 _ (List.mem_of_getElem? (i := 5) rfl)
theorem wm_15_6 : Cond.static Lib.Math.min.name ∈ wsL_law := wsr_15 _ (List.mem_of_getElem? (i := 6) rfl)
theorem wm_15_7 : Cond.initialized "java/lang/Math" ∈ wsL_law := wsr_15 _ (List.mem_of_getElem? (i := 7) rfl)
theorem wm_15_8 : Cond.code Lib.Math.min.name Lib.Math.min.code 2 (some .int) ∈ wsL_law := wsr_15 _ (List.mem_of_getElem? (i := 8) rfl)
theorem wm_15_9 : Cond.methodLink RX2 78 yX2_settled ∈ wsL_law := wsr_15 _ (List.mem_of_getElem? (i := 9) rfl)
theorem wm_15_10 : Cond.instanceMethod yX2_settled ∈ wsL_law := wsr_15 _ (List.mem_of_getElem? (i := 10) rfl)
theorem wm_15_11 : Cond.selects RX2 yX2_settled yX2_settled ∈ wsL_law := wsr_15 _ (List.mem_of_getElem? (i := 11) rfl)
theorem wm_15_12 : Cond.code yX2_settled cX2_settled 4 (some .int) ∈ wsL_law := wsr_15 _ (List.mem_of_getElem? (i := 12) rfl)
theorem wm_15_13 : Cond.methodLink RX2 91 Lib.Math.min.name ∈ wsL_law := wsr_15 _ (List.mem_of_getElem? (i := 13) rfl)
theorem wm_15_14 : Cond.methodLink RX2 81 yX2_forgedFor ∈ wsL_law := wsr_15 _ (List.mem_of_getElem? (i := 14) rfl)
theorem wm_15_15 : Cond.instanceMethod yX2_forgedFor ∈ wsL_law := wsr_15 _ (List.mem_of_getElem? (i := 15) rfl)
theorem wm_15_16 : Cond.selects RX2 yX2_forgedFor yX2_forgedFor ∈ wsL_law := wsr_15 _ (List.mem_of_getElem? (i := 16) rfl)
theorem wm_15_17 : Cond.code yX2_forgedFor cX2_forgedFor 3 (some .int) ∈ wsL_law := wsr_15 _ (List.mem_of_getElem? (i := 17) rfl)
theorem wm_15_18 : Cond.methodLink RX2 84 yX2_monthEnded ∈ wsL_law := wsr_15 _ (List.mem_of_getElem? (i := 18) rfl)
theorem wm_15_19 : Cond.instanceMethod yX2_monthEnded ∈ wsL_law := wsr_15 _ (List.mem_of_getElem? (i := 19) rfl)
theorem wm_15_20 : Cond.selects RX2 yX2_monthEnded yX2_monthEnded ∈ wsL_law := wsr_15 _ (List.mem_of_getElem? (i := 20) rfl)
theorem wm_15_21 : Cond.code yX2_monthEnded cX2_monthEnded 1 (some .int) ∈ wsL_law := wsr_15 _ (List.mem_of_getElem? (i := 21) rfl)
theorem wm_15_22 : Cond.methodLink RX5 57 yX5_endMonth ∈ wsL_law := wsr_15 _ (List.mem_of_getElem? (i := 22) rfl)
theorem wm_15_23 : Cond.instanceMethod yX5_endMonth ∈ wsL_law := wsr_15 _ (List.mem_of_getElem? (i := 23) rfl)
theorem wm_16_0 : Cond.selects RX5 yX5_endMonth yX5_endMonth ∈ wsL_law := wsr_16 _ (List.mem_of_getElem? (i := 0) rfl)
theorem wm_16_1 : Cond.code yX5_endMonth cX5_endMonth 2 none ∈ wsL_law := wsr_16 _ (List.mem_of_getElem? (i := 1) rfl)
theorem wm_16_2 : Cond.methodLink RX5 64 yX2_rate ∈ wsL_law := wsr_16 _ (List.mem_of_getElem? (i := 2) rfl)
theorem wm_16_3 : Cond.methodLink RL 48 yX8_judge ∈ wsL_law := wsr_16 _ (List.mem_of_getElem? (i := 3) rfl)
theorem wm_16_4 : Cond.instanceMethod yX8_judge ∈ wsL_law := wsr_16 _ (List.mem_of_getElem? (i := 4) rfl)
theorem wm_16_5 : Cond.selects RX8 yX8_judge yX8_judge ∈ wsL_law := wsr_16 _ (List.mem_of_getElem? (i := 5) rfl)
theorem wm_16_6 : Cond.code yX8_judge cX8_judge 3 (some .int) ∈ wsL_law := wsr_16 _ (List.mem_of_getElem? (i := 6) rfl)
theorem wm_16_7 : Cond.constantLong RX8 221 (2) ∈ wsL_law := wsr_16 _ (List.mem_of_getElem? (i := 7) rfl)
theorem wm_16_8 : Cond.fieldLink RX8 196 "AbbeyNotesModel" "badAct" "I" ∈ wsL_law := wsr_16 _ (List.mem_of_getElem? (i := 8) rfl)
theorem wm_16_9 : Cond.fieldLink RX8 199 "AbbeyNotesModel" "badWhy" "I" ∈ wsL_law := wsr_16 _ (List.mem_of_getElem? (i := 9) rfl)
theorem wm_16_10 : Cond.fieldLink RX8 202 "AbbeyNotesModel" "endedMany" "I" ∈ wsL_law := wsr_16 _ (List.mem_of_getElem? (i := 10) rfl)
theorem wm_16_11 : Cond.methodLink RX8 223 yX8_refusal ∈ wsL_law := wsr_16 _ (List.mem_of_getElem? (i := 11) rfl)
theorem wm_16_12 : Cond.instanceMethod yX8_refusal ∈ wsL_law := wsr_16 _ (List.mem_of_getElem? (i := 12) rfl)
theorem wm_16_13 : Cond.selects RX8 yX8_refusal yX8_refusal ∈ wsL_law := wsr_16 _ (List.mem_of_getElem? (i := 13) rfl)
theorem wm_16_14 : Cond.code yX8_refusal cX8_refusal 1 (some .int) ∈ wsL_law := wsr_16 _ (List.mem_of_getElem? (i := 14) rfl)
theorem wm_16_15 : Cond.methodLink RX8 212 yX8_keepNow ∈ wsL_law := wsr_16 _ (List.mem_of_getElem? (i := 15) rfl)
theorem wm_16_16 : Cond.instanceMethod yX8_keepNow ∈ wsL_law := wsr_16 _ (List.mem_of_getElem? (i := 16) rfl)
theorem wm_16_17 : Cond.selects RX8 yX8_keepNow yX8_keepNow ∈ wsL_law := wsr_16 _ (List.mem_of_getElem? (i := 17) rfl)
theorem wm_16_18 : Cond.code yX8_keepNow cX8_keepNow 2 none ∈ wsL_law := wsr_16 _ (List.mem_of_getElem? (i := 18) rfl)
theorem wm_16_19 : Cond.fieldLink RX8 183 "AbbeyNotesModel" "burnt" "I" ∈ wsL_law := wsr_16 _ (List.mem_of_getElem? (i := 19) rfl)
theorem wm_16_20 : Cond.fieldLink RX8 180 "AbbeyNotesModel" "months" "I" ∈ wsL_law := wsr_16 _ (List.mem_of_getElem? (i := 20) rfl)
theorem wm_16_21 : Cond.methodLink RX8 215 yX8_fault ∈ wsL_law := wsr_16 _ (List.mem_of_getElem? (i := 21) rfl)
theorem wm_16_22 : Cond.methodLink RX8 218 yX8_goMonths ∈ wsL_law := wsr_16 _ (List.mem_of_getElem? (i := 22) rfl)
theorem wm_16_23 : Cond.instanceMethod yX8_goMonths ∈ wsL_law := wsr_16 _ (List.mem_of_getElem? (i := 23) rfl)
theorem wm_17_0 : Cond.selects RX8 yX8_goMonths yX8_goMonths ∈ wsL_law := wsr_17 _ (List.mem_of_getElem? (i := 0) rfl)
theorem wm_17_1 : Cond.code yX8_goMonths cX8_goMonths 3 none ∈ wsL_law := wsr_17 _ (List.mem_of_getElem? (i := 1) rfl)
theorem wm_17_2 : Cond.methodLink RX8 205 yX8_whyNot ∈ wsL_law := wsr_17 _ (List.mem_of_getElem? (i := 2) rfl)
theorem wm_17_3 : Cond.instanceMethod yX8_whyNot ∈ wsL_law := wsr_17 _ (List.mem_of_getElem? (i := 3) rfl)
theorem wm_17_4 : Cond.selects RX8 yX8_whyNot yX8_whyNot ∈ wsL_law := wsr_17 _ (List.mem_of_getElem? (i := 4) rfl)
theorem wm_17_5 : Cond.code yX8_whyNot cX8_whyNot 4 (some .int) ∈ wsL_law := wsr_17 _ (List.mem_of_getElem? (i := 5) rfl)
theorem wm_17_6 : Cond.constant RX8 170 (99999) ∈ wsL_law := wsr_17 _ (List.mem_of_getElem? (i := 6) rfl)
theorem wm_17_7 : Cond.methodLink RX8 174 yX8_whyNotChange ∈ wsL_law := wsr_17 _ (List.mem_of_getElem? (i := 7) rfl)
theorem wm_17_8 : Cond.instanceMethod yX8_whyNotChange ∈ wsL_law := wsr_17 _ (List.mem_of_getElem? (i := 8) rfl)
theorem wm_17_9 : Cond.selects RX8 yX8_whyNotChange yX8_whyNotChange ∈ wsL_law := wsr_17 _ (List.mem_of_getElem? (i := 9) rfl)
theorem wm_17_10 : Cond.code yX8_whyNotChange cX8_whyNotChange 3 (some .int) ∈ wsL_law := wsr_17 _ (List.mem_of_getElem? (i := 10) rfl)
theorem wm_17_11 : Cond.methodLink RX8 167 yX8_worth ∈ wsL_law := wsr_17 _ (List.mem_of_getElem? (i := 11) rfl)
theorem wm_17_12 : Cond.instanceMethod yX8_worth ∈ wsL_law := wsr_17 _ (List.mem_of_getElem? (i := 12) rfl)
theorem wm_17_13 : Cond.selects RX8 yX8_worth yX8_worth ∈ wsL_law := wsr_17 _ (List.mem_of_getElem? (i := 13) rfl)
theorem wm_17_14 : Cond.code yX8_worth cX8_worth 2 (some .int) ∈ wsL_law := wsr_17 _ (List.mem_of_getElem? (i := 14) rfl)
theorem wm_17_15 : Cond.methodLink RX8 164 yX8_rate ∈ wsL_law := wsr_17 _ (List.mem_of_getElem? (i := 15) rfl)
theorem wm_17_16 : Cond.instanceMethod yX8_rate ∈ wsL_law := wsr_17 _ (List.mem_of_getElem? (i := 16) rfl)
theorem wm_17_17 : Cond.selects RX8 yX8_rate yX8_rate ∈ wsL_law := wsr_17 _ (List.mem_of_getElem? (i := 17) rfl)
theorem wm_17_18 : Cond.code yX8_rate cX8_rate 1 (some .int) ∈ wsL_law := wsr_17 _ (List.mem_of_getElem? (i := 18) rfl)
theorem wm_17_19 : Cond.methodLink RX8 153 yX8_land ∈ wsL_law := wsr_17 _ (List.mem_of_getElem? (i := 19) rfl)
theorem wm_17_20 : Cond.instanceMethod yX8_land ∈ wsL_law := wsr_17 _ (List.mem_of_getElem? (i := 20) rfl)
theorem wm_17_21 : Cond.selects RX8 yX8_land yX8_land ∈ wsL_law := wsr_17 _ (List.mem_of_getElem? (i := 21) rfl)
theorem wm_17_22 : Cond.code yX8_land cX8_land 3 (some .int) ∈ wsL_law := wsr_17 _ (List.mem_of_getElem? (i := 22) rfl)
theorem wm_17_23 : Cond.methodLink RX8 157 yX8_notes ∈ wsL_law := wsr_17 _ (List.mem_of_getElem? (i := 23) rfl)
theorem wm_18_0 : Cond.instanceMethod yX8_notes ∈ wsL_law := wsr_18 _ (List.mem_of_getElem? (i := 0) rfl)
theorem wm_18_1 : Cond.selects RX8 yX8_notes yX8_notes ∈ wsL_law := wsr_18 _ (List.mem_of_getElem? (i := 1) rfl)
theorem wm_18_2 : Cond.code yX8_notes cX8_notes 3 (some .int) ∈ wsL_law := wsr_18 _ (List.mem_of_getElem? (i := 2) rfl)
theorem wm_18_3 : Cond.methodLink RX8 160 yX8_rateOf ∈ wsL_law := wsr_18 _ (List.mem_of_getElem? (i := 3) rfl)
theorem wm_18_4 : Cond.static yX8_rateOf ∈ wsL_law := wsr_18 _ (List.mem_of_getElem? (i := 4) rfl)
theorem wm_18_5 : Cond.code yX8_rateOf cX8_rateOf 5 (some .int) ∈ wsL_law := wsr_18 _ (List.mem_of_getElem? (i := 5) rfl)
theorem wm_18_6 : Cond.constantLong RX8 151 (100) ∈ wsL_law := wsr_18 _ (List.mem_of_getElem? (i := 6) rfl)
theorem wm_18_7 : Cond.methodLink RX8 177 yX8_whyNotPay ∈ wsL_law := wsr_18 _ (List.mem_of_getElem? (i := 7) rfl)
theorem wm_18_8 : Cond.instanceMethod yX8_whyNotPay ∈ wsL_law := wsr_18 _ (List.mem_of_getElem? (i := 8) rfl)
theorem wm_18_9 : Cond.selects RX8 yX8_whyNotPay yX8_whyNotPay ∈ wsL_law := wsr_18 _ (List.mem_of_getElem? (i := 9) rfl)
theorem wm_18_10 : Cond.code yX8_whyNotPay cX8_whyNotPay 4 (some .int) ∈ wsL_law := wsr_18 _ (List.mem_of_getElem? (i := 10) rfl)
theorem wm_18_11 : Cond.methodLink RX8 171 yX8_payment ∈ wsL_law := wsr_18 _ (List.mem_of_getElem? (i := 11) rfl)
theorem wm_18_12 : Cond.instanceMethod yX8_payment ∈ wsL_law := wsr_18 _ (List.mem_of_getElem? (i := 12) rfl)
theorem wm_18_13 : Cond.selects RX8 yX8_payment yX8_payment ∈ wsL_law := wsr_18 _ (List.mem_of_getElem? (i := 13) rfl)
theorem wm_18_14 : Cond.code yX8_payment cX8_payment 4 (some .int) ∈ wsL_law := wsr_18 _ (List.mem_of_getElem? (i := 14) rfl)
theorem wm_18_15 : Cond.methodLink RX8 208 yX8_happen ∈ wsL_law := wsr_18 _ (List.mem_of_getElem? (i := 15) rfl)
theorem wm_18_16 : Cond.instanceMethod yX8_happen ∈ wsL_law := wsr_18 _ (List.mem_of_getElem? (i := 16) rfl)
theorem wm_18_17 : Cond.selects RX8 yX8_happen yX8_happen ∈ wsL_law := wsr_18 _ (List.mem_of_getElem? (i := 17) rfl)
theorem wm_18_18 : Cond.code yX8_happen cX8_happen 4 none ∈ wsL_law := wsr_18 _ (List.mem_of_getElem? (i := 18) rfl)
theorem wm_18_19 : Cond.methodLink RX8 186 yX8_buy ∈ wsL_law := wsr_18 _ (List.mem_of_getElem? (i := 19) rfl)
theorem wm_18_20 : Cond.instanceMethod yX8_buy ∈ wsL_law := wsr_18 _ (List.mem_of_getElem? (i := 20) rfl)
theorem wm_18_21 : Cond.selects RX8 yX8_buy yX8_buy ∈ wsL_law := wsr_18 _ (List.mem_of_getElem? (i := 21) rfl)
theorem wm_18_22 : Cond.code yX8_buy cX8_buy 3 none ∈ wsL_law := wsr_18 _ (List.mem_of_getElem? (i := 22) rfl)
theorem wm_18_23 : Cond.methodLink RX8 190 yX8_swap ∈ wsL_law := wsr_18 _ (List.mem_of_getElem? (i := 23) rfl)
theorem wm_19_0 : Cond.instanceMethod yX8_swap ∈ wsL_law := wsr_19 _ (List.mem_of_getElem? (i := 0) rfl)
theorem wm_19_1 : Cond.selects RX8 yX8_swap yX8_swap ∈ wsL_law := wsr_19 _ (List.mem_of_getElem? (i := 1) rfl)
theorem wm_19_2 : Cond.code yX8_swap cX8_swap 3 none ∈ wsL_law := wsr_19 _ (List.mem_of_getElem? (i := 2) rfl)
theorem wm_19_3 : Cond.methodLink RX8 193 yX8_pay ∈ wsL_law := wsr_19 _ (List.mem_of_getElem? (i := 3) rfl)
theorem wm_19_4 : Cond.instanceMethod yX8_pay ∈ wsL_law := wsr_19 _ (List.mem_of_getElem? (i := 4) rfl)
theorem wm_19_5 : Cond.selects RX8 yX8_pay yX8_pay ∈ wsL_law := wsr_19 _ (List.mem_of_getElem? (i := 5) rfl)
theorem wm_19_6 : Cond.code yX8_pay cX8_pay 4 none ∈ wsL_law := wsr_19 _ (List.mem_of_getElem? (i := 6) rfl)
theorem wm_19_7 : Cond.methodLink RX8 226 yX8_back ∈ wsL_law := wsr_19 _ (List.mem_of_getElem? (i := 7) rfl)
theorem wm_19_8 : Cond.instanceMethod yX8_back ∈ wsL_law := wsr_19 _ (List.mem_of_getElem? (i := 8) rfl)
theorem wm_19_9 : Cond.selects RX8 yX8_back yX8_back ∈ wsL_law := wsr_19 _ (List.mem_of_getElem? (i := 9) rfl)
theorem wm_19_10 : Cond.code yX8_back cX8_back 3 (some .int) ∈ wsL_law := wsr_19 _ (List.mem_of_getElem? (i := 10) rfl)
theorem wm_19_11 : Cond.methodLink RL 49 yX7_behind ∈ wsL_law := wsr_19 _ (List.mem_of_getElem? (i := 11) rfl)
theorem wm_19_12 : Cond.instanceMethod yX7_behind ∈ wsL_law := wsr_19 _ (List.mem_of_getElem? (i := 12) rfl)
theorem wm_19_13 : Cond.selects RX7 yX7_behind yX7_behind ∈ wsL_law := wsr_19 _ (List.mem_of_getElem? (i := 13) rfl)
theorem wm_19_14 : Cond.code yX7_behind cX7_behind 4 (some .int) ∈ wsL_law := wsr_19 _ (List.mem_of_getElem? (i := 14) rfl)
theorem wm_19_15 : Cond.fieldLink RX7 115 "AbbeyNotes$Trial" "realm" "LAbbeyNotes$Realm;" ∈ wsL_law := wsr_19 _ (List.mem_of_getElem? (i := 15) rfl)
theorem wm_19_16 : Cond.methodLink RX7 118 yX2_ofOne ∈ wsL_law := wsr_19 _ (List.mem_of_getElem? (i := 16) rfl)
theorem wm_19_17 : Cond.instanceMethod yX2_ofOne ∈ wsL_law := wsr_19 _ (List.mem_of_getElem? (i := 17) rfl)
theorem wm_19_18 : Cond.selects RX2 yX2_ofOne yX2_ofOne ∈ wsL_law := wsr_19 _ (List.mem_of_getElem? (i := 18) rfl)
theorem wm_19_19 : Cond.code yX2_ofOne cX2_ofOne 3 (some .int) ∈ wsL_law := wsr_19 _ (List.mem_of_getElem? (i := 19) rfl)
theorem wm_19_20 : Cond.methodLink RX2 59 yX2_lotsOf ∈ wsL_law := wsr_19 _ (List.mem_of_getElem? (i := 20) rfl)
theorem wm_19_21 : Cond.instanceMethod yX2_lotsOf ∈ wsL_law := wsr_19 _ (List.mem_of_getElem? (i := 21) rfl)
theorem wm_19_22 : Cond.selects RX2 yX2_lotsOf yX2_lotsOf ∈ wsL_law := wsr_19 _ (List.mem_of_getElem? (i := 22) rfl)
theorem wm_19_23 : Cond.code yX2_lotsOf cX2_lotsOf 4 (some .int) ∈ wsL_law := wsr_19 _ (List.mem_of_getElem? (i := 23) rfl)
theorem wm_20_0 : Cond.methodLink RX2 63 yX2_owesInAll ∈ wsL_law := wsr_20 _ (List.mem_of_getElem? (i := 0) rfl)
theorem wm_20_1 : Cond.instanceMethod yX2_owesInAll ∈ wsL_law := wsr_20 _ (List.mem_of_getElem? (i := 1) rfl)
theorem wm_20_2 : Cond.selects RX2 yX2_owesInAll yX2_owesInAll ∈ wsL_law := wsr_20 _ (List.mem_of_getElem? (i := 2) rfl)
theorem wm_20_3 : Cond.code yX2_owesInAll cX2_owesInAll 4 (some .int) ∈ wsL_law := wsr_20 _ (List.mem_of_getElem? (i := 3) rfl)
theorem wm_20_4 : Cond.methodLink RL 52 yX8_behind ∈ wsL_law := wsr_20 _ (List.mem_of_getElem? (i := 4) rfl)
theorem wm_20_5 : Cond.instanceMethod yX8_behind ∈ wsL_law := wsr_20 _ (List.mem_of_getElem? (i := 5) rfl)
theorem wm_20_6 : Cond.selects RX8 yX8_behind yX8_behind ∈ wsL_law := wsr_20 _ (List.mem_of_getElem? (i := 6) rfl)
theorem wm_20_7 : Cond.code yX8_behind cX8_behind 4 (some .int) ∈ wsL_law := wsr_20 _ (List.mem_of_getElem? (i := 7) rfl)
theorem wm_20_8 : Cond.constantLong RX8 235 (3) ∈ wsL_law := wsr_20 _ (List.mem_of_getElem? (i := 8) rfl)
theorem wm_20_9 : Cond.methodLink RX8 237 yX8_ofOne ∈ wsL_law := wsr_20 _ (List.mem_of_getElem? (i := 9) rfl)
theorem wm_20_10 : Cond.instanceMethod yX8_ofOne ∈ wsL_law := wsr_20 _ (List.mem_of_getElem? (i := 10) rfl)
theorem wm_20_11 : Cond.selects RX8 yX8_ofOne yX8_ofOne ∈ wsL_law := wsr_20 _ (List.mem_of_getElem? (i := 11) rfl)
theorem wm_20_12 : Cond.code yX8_ofOne cX8_ofOne 3 (some .int) ∈ wsL_law := wsr_20 _ (List.mem_of_getElem? (i := 12) rfl)
theorem wm_20_13 : Cond.methodLink RX8 229 yX8_lotsOf ∈ wsL_law := wsr_20 _ (List.mem_of_getElem? (i := 13) rfl)
theorem wm_20_14 : Cond.instanceMethod yX8_lotsOf ∈ wsL_law := wsr_20 _ (List.mem_of_getElem? (i := 14) rfl)
theorem wm_20_15 : Cond.selects RX8 yX8_lotsOf yX8_lotsOf ∈ wsL_law := wsr_20 _ (List.mem_of_getElem? (i := 15) rfl)
theorem wm_20_16 : Cond.code yX8_lotsOf cX8_lotsOf 4 (some .int) ∈ wsL_law := wsr_20 _ (List.mem_of_getElem? (i := 16) rfl)
theorem wm_20_17 : Cond.methodLink RX8 232 yX8_owesInAll ∈ wsL_law := wsr_20 _ (List.mem_of_getElem? (i := 17) rfl)
theorem wm_20_18 : Cond.instanceMethod yX8_owesInAll ∈ wsL_law := wsr_20 _ (List.mem_of_getElem? (i := 18) rfl)
theorem wm_20_19 : Cond.selects RX8 yX8_owesInAll yX8_owesInAll ∈ wsL_law := wsr_20 _ (List.mem_of_getElem? (i := 19) rfl)
theorem wm_20_20 : Cond.code yX8_owesInAll cX8_owesInAll 4 (some .int) ∈ wsL_law := wsr_20 _ (List.mem_of_getElem? (i := 20) rfl)
theorem wm_20_21 : Cond.methodLink RL 53 yX7_total ∈ wsL_law := wsr_20 _ (List.mem_of_getElem? (i := 21) rfl)
theorem wm_20_22 : Cond.instanceMethod yX7_total ∈ wsL_law := wsr_20 _ (List.mem_of_getElem? (i := 22) rfl)
theorem wm_20_23 : Cond.selects RX7 yX7_total yX7_total ∈ wsL_law := wsr_20 _ (List.mem_of_getElem? (i := 23) rfl)
theorem wm_21_0 : Cond.code yX7_total cX7_total 3 (some .int) ∈ wsL_law := wsr_21 _ (List.mem_of_getElem? (i := 0) rfl)
theorem wm_21_1 : Cond.fieldLink RX7 131 "AbbeyNotes$Realm" "burnt" "I" ∈ wsL_law := wsr_21 _ (List.mem_of_getElem? (i := 1) rfl)
theorem wm_21_2 : Cond.fieldLink RX7 134 "AbbeyNotes$Realm" "months" "I" ∈ wsL_law := wsr_21 _ (List.mem_of_getElem? (i := 2) rfl)
theorem wm_21_3 : Cond.methodLink RX7 122 yX2_notes ∈ wsL_law := wsr_21 _ (List.mem_of_getElem? (i := 3) rfl)
theorem wm_21_4 : Cond.methodLink RX7 125 yX2_land ∈ wsL_law := wsr_21 _ (List.mem_of_getElem? (i := 4) rfl)
theorem wm_21_5 : Cond.methodLink RX7 128 yX2_rate ∈ wsL_law := wsr_21 _ (List.mem_of_getElem? (i := 5) rfl)
theorem wm_21_6 : Cond.methodLink RL 56 yX8_total ∈ wsL_law := wsr_21 _ (List.mem_of_getElem? (i := 6) rfl)
theorem wm_21_7 : Cond.instanceMethod yX8_total ∈ wsL_law := wsr_21 _ (List.mem_of_getElem? (i := 7) rfl)
theorem wm_21_8 : Cond.selects RX8 yX8_total yX8_total ∈ wsL_law := wsr_21 _ (List.mem_of_getElem? (i := 8) rfl)
theorem wm_21_9 : Cond.code yX8_total cX8_total 3 (some .int) ∈ wsL_law := wsr_21 _ (List.mem_of_getElem? (i := 9) rfl)
theorem wm_21_10 : Cond.methodLink RX8 240 yX8_ofAll ∈ wsL_law := wsr_21 _ (List.mem_of_getElem? (i := 10) rfl)
theorem wm_21_11 : Cond.instanceMethod yX8_ofAll ∈ wsL_law := wsr_21 _ (List.mem_of_getElem? (i := 11) rfl)
theorem wm_21_12 : Cond.selects RX8 yX8_ofAll yX8_ofAll ∈ wsL_law := wsr_21 _ (List.mem_of_getElem? (i := 12) rfl)
theorem wm_21_13 : Cond.code yX8_ofAll cX8_ofAll 2 (some .int) ∈ wsL_law := wsr_21 _ (List.mem_of_getElem? (i := 13) rfl)
theorem wm_21_14 : Cond.methodLink RL 57 yX7_fell ∈ wsL_law := wsr_21 _ (List.mem_of_getElem? (i := 14) rfl)
theorem wm_21_15 : Cond.instanceMethod yX7_fell ∈ wsL_law := wsr_21 _ (List.mem_of_getElem? (i := 15) rfl)
theorem wm_21_16 : Cond.selects RX7 yX7_fell yX7_fell ∈ wsL_law := wsr_21 _ (List.mem_of_getElem? (i := 16) rfl)
theorem wm_21_17 : Cond.code yX7_fell cX7_fell 3 (some .int) ∈ wsL_law := wsr_21 _ (List.mem_of_getElem? (i := 17) rfl)
theorem wm_21_18 : Cond.fieldLink RX7 137 "AbbeyNotes$Trial" "fellIn" "I" ∈ wsL_law := wsr_21 _ (List.mem_of_getElem? (i := 18) rfl)
theorem wm_21_19 : Cond.methodLink RL 60 yX8_fell ∈ wsL_law := wsr_21 _ (List.mem_of_getElem? (i := 19) rfl)
theorem wm_21_20 : Cond.instanceMethod yX8_fell ∈ wsL_law := wsr_21 _ (List.mem_of_getElem? (i := 20) rfl)
theorem wm_21_21 : Cond.selects RX8 yX8_fell yX8_fell ∈ wsL_law := wsr_21 _ (List.mem_of_getElem? (i := 21) rfl)
theorem wm_21_22 : Cond.code yX8_fell cX8_fell 4 (some .int) ∈ wsL_law := wsr_21 _ (List.mem_of_getElem? (i := 22) rfl)
theorem wm_21_23 : Cond.methodLink RL 61 yX7_done ∈ wsL_law := wsr_21 _ (List.mem_of_getElem? (i := 23) rfl)
theorem wm_22_0 : Cond.instanceMethod yX7_done ∈ wsL_law := wsr_22 _ (List.mem_of_getElem? (i := 0) rfl)
theorem wm_22_1 : Cond.selects RX7 yX7_done yX7_done ∈ wsL_law := wsr_22 _ (List.mem_of_getElem? (i := 1) rfl)
theorem wm_22_2 : Cond.code yX7_done cX7_done 2 (some .int) ∈ wsL_law := wsr_22 _ (List.mem_of_getElem? (i := 2) rfl)
theorem wm_22_3 : Cond.methodLink RX7 140 yX2_copyFrom ∈ wsL_law := wsr_22 _ (List.mem_of_getElem? (i := 3) rfl)
theorem wm_22_4 : Cond.methodLink RL 64 yX8_done ∈ wsL_law := wsr_22 _ (List.mem_of_getElem? (i := 4) rfl)
theorem wm_22_5 : Cond.instanceMethod yX8_done ∈ wsL_law := wsr_22 _ (List.mem_of_getElem? (i := 5) rfl)
theorem wm_22_6 : Cond.selects RX8 yX8_done yX8_done ∈ wsL_law := wsr_22 _ (List.mem_of_getElem? (i := 6) rfl)
theorem wm_22_7 : Cond.code yX8_done cX8_done 2 (some .int) ∈ wsL_law := wsr_22 _ (List.mem_of_getElem? (i := 7) rfl)
theorem wm_22_8 : Cond.methodLink RL 65 yX7_struck ∈ wsL_law := wsr_22 _ (List.mem_of_getElem? (i := 8) rfl)
theorem wm_22_9 : Cond.instanceMethod yX7_struck ∈ wsL_law := wsr_22 _ (List.mem_of_getElem? (i := 9) rfl)
theorem wm_22_10 : Cond.selects RX7 yX7_struck yX7_struck ∈ wsL_law := wsr_22 _ (List.mem_of_getElem? (i := 10) rfl)
theorem wm_22_11 : Cond.code yX7_struck cX7_struck 2 (some .int) ∈ wsL_law := wsr_22 _ (List.mem_of_getElem? (i := 11) rfl)
theorem wm_22_12 : Cond.methodLink RX7 144 yX3_weigh ∈ wsL_law := wsr_22 _ (List.mem_of_getElem? (i := 12) rfl)
theorem wm_22_13 : Cond.instanceMethod yX3_weigh ∈ wsL_law := wsr_22 _ (List.mem_of_getElem? (i := 13) rfl)
theorem wm_22_14 : Cond.selects RX3 yX3_weigh yX3_weigh ∈ wsL_law := wsr_22 _ (List.mem_of_getElem? (i := 14) rfl)
theorem wm_22_15 : Cond.code yX3_weigh cX3_weigh 4 none ∈ wsL_law := wsr_22 _ (List.mem_of_getElem? (i := 15) rfl)
theorem wm_22_16 : Cond.fieldLink RX3 24 "AbbeyNotes$Realm" "owes" "[[I" ∈ wsL_law := wsr_22 _ (List.mem_of_getElem? (i := 16) rfl)
theorem wm_22_17 : Cond.methodLink RX3 18 yX2_owesInAll ∈ wsL_law := wsr_22 _ (List.mem_of_getElem? (i := 17) rfl)
theorem wm_22_18 : Cond.methodLink RX7 147 yX3_fewestPayments ∈ wsL_law := wsr_22 _ (List.mem_of_getElem? (i := 18) rfl)
theorem wm_22_19 : Cond.instanceMethod yX3_fewestPayments ∈ wsL_law := wsr_22 _ (List.mem_of_getElem? (i := 19) rfl)
theorem wm_22_20 : Cond.selects RX3 yX3_fewestPayments yX3_fewestPayments ∈ wsL_law := wsr_22 _ (List.mem_of_getElem? (i := 20) rfl)
theorem wm_22_21 : Cond.code yX3_fewestPayments cX3_fewestPayments 5 (some .int) ∈ wsL_law := wsr_22 _ (List.mem_of_getElem? (i := 21) rfl)
theorem wm_22_22 : Cond.methodLink RX3 28 Lib.Math.max.name ∈ wsL_law := wsr_22 _ (List.mem_of_getElem? (i := 22) rfl)
theorem wm_22_23 : Cond.static Lib.Math.max.name ∈ wsL_law := wsr_22 _ (List.mem_of_getElem? (i := 23) rfl)
theorem wm_23_0 : Cond.code Lib.Math.max.name Lib.Math.max.code 2 (some .int) ∈ wsL_law := wsr_23 _ (List.mem_of_getElem? (i := 0) rfl)
theorem wm_23_1 : Cond.methodLink RX3 34 yX3_dueTo ∈ wsL_law := wsr_23 _ (List.mem_of_getElem? (i := 1) rfl)
theorem wm_23_2 : Cond.instanceMethod yX3_dueTo ∈ wsL_law := wsr_23 _ (List.mem_of_getElem? (i := 2) rfl)
theorem wm_23_3 : Cond.selects RX3 yX3_dueTo yX3_dueTo ∈ wsL_law := wsr_23 _ (List.mem_of_getElem? (i := 3) rfl)
theorem wm_23_4 : Cond.code yX3_dueTo cX3_dueTo 4 (some .int) ∈ wsL_law := wsr_23 _ (List.mem_of_getElem? (i := 4) rfl)
theorem wm_23_5 : Cond.methodLink RX7 150 yX3_leastPaid ∈ wsL_law := wsr_23 _ (List.mem_of_getElem? (i := 5) rfl)
theorem wm_23_6 : Cond.instanceMethod yX3_leastPaid ∈ wsL_law := wsr_23 _ (List.mem_of_getElem? (i := 6) rfl)
theorem wm_23_7 : Cond.selects RX3 yX3_leastPaid yX3_leastPaid ∈ wsL_law := wsr_23 _ (List.mem_of_getElem? (i := 7) rfl)
theorem wm_23_8 : Cond.code yX3_leastPaid cX3_leastPaid 3 (some .int) ∈ wsL_law := wsr_23 _ (List.mem_of_getElem? (i := 8) rfl)
theorem wm_23_9 : Cond.methodLink RL 68 yX8_struck ∈ wsL_law := wsr_23 _ (List.mem_of_getElem? (i := 9) rfl)
theorem wm_23_10 : Cond.instanceMethod yX8_struck ∈ wsL_law := wsr_23 _ (List.mem_of_getElem? (i := 10) rfl)
theorem wm_23_11 : Cond.selects RX8 yX8_struck yX8_struck ∈ wsL_law := wsr_23 _ (List.mem_of_getElem? (i := 11) rfl)
theorem wm_23_12 : Cond.code yX8_struck cX8_struck 5 (some .int) ∈ wsL_law := wsr_23 _ (List.mem_of_getElem? (i := 12) rfl)
theorem wm_23_13 : Cond.methodLink RX8 246 yX8_mostEven ∈ wsL_law := wsr_23 _ (List.mem_of_getElem? (i := 13) rfl)
theorem wm_23_14 : Cond.instanceMethod yX8_mostEven ∈ wsL_law := wsr_23 _ (List.mem_of_getElem? (i := 14) rfl)
theorem wm_23_15 : Cond.selects RX8 yX8_mostEven yX8_mostEven ∈ wsL_law := wsr_23 _ (List.mem_of_getElem? (i := 15) rfl)
theorem wm_23_16 : Cond.code yX8_mostEven cX8_mostEven 6 (some .int) ∈ wsL_law := wsr_23 _ (List.mem_of_getElem? (i := 16) rfl)
theorem wm_23_17 : Cond.methodLink RX8 243 yX8_netOf ∈ wsL_law := wsr_23 _ (List.mem_of_getElem? (i := 17) rfl)
theorem wm_23_18 : Cond.instanceMethod yX8_netOf ∈ wsL_law := wsr_23 _ (List.mem_of_getElem? (i := 18) rfl)
theorem wm_23_19 : Cond.selects RX8 yX8_netOf yX8_netOf ∈ wsL_law := wsr_23 _ (List.mem_of_getElem? (i := 19) rfl)
theorem wm_23_20 : Cond.code yX8_netOf cX8_netOf 4 (some .int) ∈ wsL_law := wsr_23 _ (List.mem_of_getElem? (i := 20) rfl)
theorem wm_23_21 : Cond.methodLink RL 69 yX7_prints ∈ wsL_law := wsr_23 _ (List.mem_of_getElem? (i := 21) rfl)
theorem wm_23_22 : Cond.instanceMethod yX7_prints ∈ wsL_law := wsr_23 _ (List.mem_of_getElem? (i := 22) rfl)
theorem wm_23_23 : Cond.selects RX7 yX7_prints yX7_prints ∈ wsL_law := wsr_23 _ (List.mem_of_getElem? (i := 23) rfl)
theorem wm_24_0 : Cond.code yX7_prints cX7_prints 4 (some .int) ∈ wsL_law := wsr_24 _ (List.mem_of_getElem? (i := 0) rfl)
theorem wm_24_1 : Cond.methodLink RL 72 yX8_prints ∈ wsL_law := wsr_24 _ (List.mem_of_getElem? (i := 1) rfl)
theorem wm_24_2 : Cond.instanceMethod yX8_prints ∈ wsL_law := wsr_24 _ (List.mem_of_getElem? (i := 2) rfl)
theorem wm_24_3 : Cond.selects RX8 yX8_prints yX8_prints ∈ wsL_law := wsr_24 _ (List.mem_of_getElem? (i := 3) rfl)
theorem wm_24_4 : Cond.code yX8_prints cX8_prints 4 (some .int) ∈ wsL_law := wsr_24 _ (List.mem_of_getElem? (i := 4) rfl)
theorem wm_24_5 : Cond.methodLink RL 73 yX7_buys ∈ wsL_law := wsr_24 _ (List.mem_of_getElem? (i := 5) rfl)
theorem wm_24_6 : Cond.instanceMethod yX7_buys ∈ wsL_law := wsr_24 _ (List.mem_of_getElem? (i := 6) rfl)
theorem wm_24_7 : Cond.selects RX7 yX7_buys yX7_buys ∈ wsL_law := wsr_24 _ (List.mem_of_getElem? (i := 7) rfl)
theorem wm_24_8 : Cond.code yX7_buys cX7_buys 8 (some .int) ∈ wsL_law := wsr_24 _ (List.mem_of_getElem? (i := 8) rfl)
theorem wm_24_9 : Cond.methodLink RX7 162 yX2_lotsOf ∈ wsL_law := wsr_24 _ (List.mem_of_getElem? (i := 9) rfl)
theorem wm_24_10 : Cond.methodLink RX7 165 yX2_priceOf ∈ wsL_law := wsr_24 _ (List.mem_of_getElem? (i := 10) rfl)
theorem wm_24_11 : Cond.instanceMethod yX2_priceOf ∈ wsL_law := wsr_24 _ (List.mem_of_getElem? (i := 11) rfl)
theorem wm_24_12 : Cond.selects RX2 yX2_priceOf yX2_priceOf ∈ wsL_law := wsr_24 _ (List.mem_of_getElem? (i := 12) rfl)
theorem wm_24_13 : Cond.code yX2_priceOf cX2_priceOf 4 (some .int) ∈ wsL_law := wsr_24 _ (List.mem_of_getElem? (i := 13) rfl)
theorem wm_24_14 : Cond.methodLink RL 76 yX8_buys ∈ wsL_law := wsr_24 _ (List.mem_of_getElem? (i := 14) rfl)
theorem wm_24_15 : Cond.instanceMethod yX8_buys ∈ wsL_law := wsr_24 _ (List.mem_of_getElem? (i := 15) rfl)
theorem wm_24_16 : Cond.selects RX8 yX8_buys yX8_buys ∈ wsL_law := wsr_24 _ (List.mem_of_getElem? (i := 16) rfl)
theorem wm_24_17 : Cond.code yX8_buys cX8_buys 7 (some .int) ∈ wsL_law := wsr_24 _ (List.mem_of_getElem? (i := 17) rfl)
theorem wm_24_18 : Cond.methodLink RX8 249 yX8_pricesOf ∈ wsL_law := wsr_24 _ (List.mem_of_getElem? (i := 18) rfl)
theorem wm_24_19 : Cond.instanceMethod yX8_pricesOf ∈ wsL_law := wsr_24 _ (List.mem_of_getElem? (i := 19) rfl)
theorem wm_24_20 : Cond.selects RX8 yX8_pricesOf yX8_pricesOf ∈ wsL_law := wsr_24 _ (List.mem_of_getElem? (i := 20) rfl)
theorem wm_24_21 : Cond.code yX8_pricesOf cX8_pricesOf 4 (some .int) ∈ wsL_law := wsr_24 _ (List.mem_of_getElem? (i := 21) rfl)
theorem wm_24_22 : Cond.methodLink RL 77 yX7_runs ∈ wsL_law := wsr_24 _ (List.mem_of_getElem? (i := 22) rfl)
theorem wm_24_23 : Cond.instanceMethod yX7_runs ∈ wsL_law := wsr_24 _ (List.mem_of_getElem? (i := 23) rfl)
theorem wm_25_0 : Cond.selects RX7 yX7_runs yX7_runs ∈ wsL_law := wsr_25 _ (List.mem_of_getElem? (i := 0) rfl)
theorem wm_25_1 : Cond.code yX7_runs cX7_runs 8 (some .int) ∈ wsL_law := wsr_25 _ (List.mem_of_getElem? (i := 1) rfl)
theorem wm_25_2 : Cond.methodLink RX7 168 yX7_rateOf ∈ wsL_law := wsr_25 _ (List.mem_of_getElem? (i := 2) rfl)
theorem wm_25_3 : Cond.methodLink RL 80 yX8_runs ∈ wsL_law := wsr_25 _ (List.mem_of_getElem? (i := 3) rfl)
theorem wm_25_4 : Cond.instanceMethod yX8_runs ∈ wsL_law := wsr_25 _ (List.mem_of_getElem? (i := 4) rfl)
theorem wm_25_5 : Cond.selects RX8 yX8_runs yX8_runs ∈ wsL_law := wsr_25 _ (List.mem_of_getElem? (i := 5) rfl)
theorem wm_25_6 : Cond.code yX8_runs cX8_runs 8 (some .int) ∈ wsL_law := wsr_25 _ (List.mem_of_getElem? (i := 6) rfl)
theorem wm_25_7 : Cond.constantLong RX8 252 (99) ∈ wsL_law := wsr_25 _ (List.mem_of_getElem? (i := 7) rfl)
theorem wm_25_8 : Cond.methodLink RL 81 yX7_wages ∈ wsL_law := wsr_25 _ (List.mem_of_getElem? (i := 8) rfl)
theorem wm_25_9 : Cond.instanceMethod yX7_wages ∈ wsL_law := wsr_25 _ (List.mem_of_getElem? (i := 9) rfl)
theorem wm_25_10 : Cond.selects RX7 yX7_wages yX7_wages ∈ wsL_law := wsr_25 _ (List.mem_of_getElem? (i := 10) rfl)
theorem wm_25_11 : Cond.code yX7_wages cX7_wages 8 (some .int) ∈ wsL_law := wsr_25 _ (List.mem_of_getElem? (i := 11) rfl)
theorem wm_25_12 : Cond.constant RX7 171 (999999999) ∈ wsL_law := wsr_25 _ (List.mem_of_getElem? (i := 12) rfl)
theorem wm_25_13 : Cond.methodLink RX7 172 Lib.Math.max.name ∈ wsL_law := wsr_25 _ (List.mem_of_getElem? (i := 13) rfl)
theorem wm_25_14 : Cond.methodLink RL 84 yX8_wages ∈ wsL_law := wsr_25 _ (List.mem_of_getElem? (i := 14) rfl)
theorem wm_25_15 : Cond.instanceMethod yX8_wages ∈ wsL_law := wsr_25 _ (List.mem_of_getElem? (i := 15) rfl)
theorem wm_25_16 : Cond.selects RX8 yX8_wages yX8_wages ∈ wsL_law := wsr_25 _ (List.mem_of_getElem? (i := 16) rfl)
theorem wm_25_17 : Cond.code yX8_wages cX8_wages 7 (some .int) ∈ wsL_law := wsr_25 _ (List.mem_of_getElem? (i := 17) rfl)
theorem wm_25_18 : Cond.constantLong RX8 254 (999999999) ∈ wsL_law := wsr_25 _ (List.mem_of_getElem? (i := 18) rfl)
theorem wm_25_19 : Cond.constantLong RX8 256 (8) ∈ wsL_law := wsr_25 _ (List.mem_of_getElem? (i := 19) rfl)
theorem wm_25_20 : Cond.methodLink RL 85 yX7_change ∈ wsL_law := wsr_25 _ (List.mem_of_getElem? (i := 20) rfl)
theorem wm_25_21 : Cond.instanceMethod yX7_change ∈ wsL_law := wsr_25 _ (List.mem_of_getElem? (i := 21) rfl)
theorem wm_25_22 : Cond.selects RX7 yX7_change yX7_change ∈ wsL_law := wsr_25 _ (List.mem_of_getElem? (i := 22) rfl)
theorem wm_25_23 : Cond.code yX7_change cX7_change 10 (some .long) ∈ wsL_law := wsr_25 _ (List.mem_of_getElem? (i := 23) rfl)
theorem wm_26_0 : Cond.constantLong RX7 175 (-1000000000000000002) ∈ wsL_law := wsr_26 _ (List.mem_of_getElem? (i := 0) rfl)
theorem wm_26_1 : Cond.constantLong RX7 177 (10) ∈ wsL_law := wsr_26 _ (List.mem_of_getElem? (i := 1) rfl)
theorem wm_26_2 : Cond.methodLink RX7 179 yX6_scaledMean ∈ wsL_law := wsr_26 _ (List.mem_of_getElem? (i := 2) rfl)
theorem wm_26_3 : Cond.instanceMethod yX6_scaledMean ∈ wsL_law := wsr_26 _ (List.mem_of_getElem? (i := 3) rfl)
theorem wm_26_4 : Cond.selects RX6 yX6_scaledMean yX6_scaledMean ∈ wsL_law := wsr_26 _ (List.mem_of_getElem? (i := 4) rfl)
theorem wm_26_5 : Cond.code yX6_scaledMean cX6_scaledMean 12 (some .long) ∈ wsL_law := wsr_26 _ (List.mem_of_getElem? (i := 5) rfl)
theorem wm_26_6 : Cond.constantLong RX6 16 (10) ∈ wsL_law := wsr_26 _ (List.mem_of_getElem? (i := 6) rfl)
theorem wm_26_7 : Cond.methodLink RX6 18 Lib.Math.max.name ∈ wsL_law := wsr_26 _ (List.mem_of_getElem? (i := 7) rfl)
theorem wm_26_8 : Cond.methodLink RX6 24 Lib.MathLoose.max_long.x ∈ wsL_law := wsr_26 _ (List.mem_of_getElem? (i := 8) rfl)
theorem wm_26_9 : Cond.static Lib.MathLoose.max_long.x ∈ wsL_law := wsr_26 _ (List.mem_of_getElem? (i := 9) rfl)
theorem wm_26_10 : Cond.code Lib.MathLoose.max_long.x Lib.MathLoose.max_long.code 4 (some .long) ∈ wsL_law := wsr_26 _ (List.mem_of_getElem? (i := 10) rfl)
theorem wm_26_11 : Cond.methodLink RX7 183 yX7_lowest ∈ wsL_law := wsr_26 _ (List.mem_of_getElem? (i := 11) rfl)
theorem wm_26_12 : Cond.static yX7_lowest ∈ wsL_law := wsr_26 _ (List.mem_of_getElem? (i := 12) rfl)
theorem wm_26_13 : Cond.code yX7_lowest cX7_lowest 12 (some .long) ∈ wsL_law := wsr_26 _ (List.mem_of_getElem? (i := 13) rfl)
theorem wm_26_14 : Cond.methodLink RL 89 yX8_change ∈ wsL_law := wsr_26 _ (List.mem_of_getElem? (i := 14) rfl)
theorem wm_26_15 : Cond.instanceMethod yX8_change ∈ wsL_law := wsr_26 _ (List.mem_of_getElem? (i := 15) rfl)
theorem wm_26_16 : Cond.selects RX8 yX8_change yX8_change ∈ wsL_law := wsr_26 _ (List.mem_of_getElem? (i := 16) rfl)
theorem wm_26_17 : Cond.code yX8_change cX8_change 13 (some .long) ∈ wsL_law := wsr_26 _ (List.mem_of_getElem? (i := 17) rfl)
theorem wm_26_18 : Cond.constantLong RX8 258 (60) ∈ wsL_law := wsr_26 _ (List.mem_of_getElem? (i := 18) rfl)
theorem wm_26_19 : Cond.constantLong RX8 260 (10) ∈ wsL_law := wsr_26 _ (List.mem_of_getElem? (i := 19) rfl)
theorem wm_26_20 : Cond.constantLong RX8 262 (-1000000000000000002) ∈ wsL_law := wsr_26 _ (List.mem_of_getElem? (i := 20) rfl)
theorem wm_26_21 : Cond.methodLink RX8 264 yX8_lowest ∈ wsL_law := wsr_26 _ (List.mem_of_getElem? (i := 21) rfl)
theorem wm_26_22 : Cond.static yX8_lowest ∈ wsL_law := wsr_26 _ (List.mem_of_getElem? (i := 22) rfl)
theorem wm_26_23 : Cond.code yX8_lowest cX8_lowest 11 (some .long) ∈ wsL_law := wsr_26 _ (List.mem_of_getElem? (i := 23) rfl)
theorem wm_27_0 : Cond.methodLink RL 90 yX7_sample ∈ wsL_law := wsr_27 _ (List.mem_of_getElem? (i := 0) rfl)
theorem wm_27_1 : Cond.instanceMethod yX7_sample ∈ wsL_law := wsr_27 _ (List.mem_of_getElem? (i := 1) rfl)
theorem wm_27_2 : Cond.selects RX7 yX7_sample yX7_sample ∈ wsL_law := wsr_27 _ (List.mem_of_getElem? (i := 2) rfl)
theorem wm_27_3 : Cond.code yX7_sample cX7_sample 6 (some .long) ∈ wsL_law := wsr_27 _ (List.mem_of_getElem? (i := 3) rfl)
theorem wm_27_4 : Cond.methodLink RX7 187 yX7_choices ∈ wsL_law := wsr_27 _ (List.mem_of_getElem? (i := 4) rfl)
theorem wm_27_5 : Cond.static yX7_choices ∈ wsL_law := wsr_27 _ (List.mem_of_getElem? (i := 5) rfl)
theorem wm_27_6 : Cond.code yX7_choices cX7_choices 5 (some .long) ∈ wsL_law := wsr_27 _ (List.mem_of_getElem? (i := 6) rfl)
theorem wm_27_7 : Cond.methodLink RL 93 yX8_sample ∈ wsL_law := wsr_27 _ (List.mem_of_getElem? (i := 7) rfl)
theorem wm_27_8 : Cond.instanceMethod yX8_sample ∈ wsL_law := wsr_27 _ (List.mem_of_getElem? (i := 8) rfl)
theorem wm_27_9 : Cond.selects RX8 yX8_sample yX8_sample ∈ wsL_law := wsr_27 _ (List.mem_of_getElem? (i := 9) rfl)
theorem wm_27_10 : Cond.code yX8_sample cX8_sample 6 (some .long) ∈ wsL_law := wsr_27 _ (List.mem_of_getElem? (i := 10) rfl)
theorem wm_27_11 : Cond.constantLong RX8 268 (30) ∈ wsL_law := wsr_27 _ (List.mem_of_getElem? (i := 11) rfl)
theorem wm_27_12 : Cond.methodLink RX8 270 yX8_chooseOf ∈ wsL_law := wsr_27 _ (List.mem_of_getElem? (i := 12) rfl)
theorem wm_27_13 : Cond.instanceMethod yX8_chooseOf ∈ wsL_law := wsr_27 _ (List.mem_of_getElem? (i := 13) rfl)
theorem wm_27_14 : Cond.selects RX8 yX8_chooseOf yX8_chooseOf ∈ wsL_law := wsr_27 _ (List.mem_of_getElem? (i := 14) rfl)
theorem wm_27_15 : Cond.code yX8_chooseOf cX8_chooseOf 5 (some .long) ∈ wsL_law := wsr_27 _ (List.mem_of_getElem? (i := 15) rfl)
theorem wm_27_16 : Cond.methodLink RL 94 yX7_seen ∈ wsL_law := wsr_27 _ (List.mem_of_getElem? (i := 16) rfl)
theorem wm_27_17 : Cond.instanceMethod yX7_seen ∈ wsL_law := wsr_27 _ (List.mem_of_getElem? (i := 17) rfl)
theorem wm_27_18 : Cond.selects RX7 yX7_seen yX7_seen ∈ wsL_law := wsr_27 _ (List.mem_of_getElem? (i := 18) rfl)
theorem wm_27_19 : Cond.code yX7_seen cX7_seen 4 (some .int) ∈ wsL_law := wsr_27 _ (List.mem_of_getElem? (i := 19) rfl)
theorem wm_27_20 : Cond.fieldLink RX7 191 "AbbeyNotes$Sights" "size" "I" ∈ wsL_law := wsr_27 _ (List.mem_of_getElem? (i := 20) rfl)
theorem wm_27_21 : Cond.methodLink RX7 192 yX4_add ∈ wsL_law := wsr_27 _ (List.mem_of_getElem? (i := 21) rfl)
theorem wm_27_22 : Cond.instanceMethod yX4_add ∈ wsL_law := wsr_27 _ (List.mem_of_getElem? (i := 22) rfl)
theorem wm_27_23 : Cond.selects RX4 yX4_add yX4_add ∈ wsL_law := wsr_27 _ (List.mem_of_getElem? (i := 23) rfl)
theorem wm_28_0 : Cond.code yX4_add cX4_add 4 none ∈ wsL_law := wsr_28 _ (List.mem_of_getElem? (i := 0) rfl)
theorem wm_28_1 : Cond.fieldLink RX4 24 "AbbeyNotes$Sights" "size" "I" ∈ wsL_law := wsr_28 _ (List.mem_of_getElem? (i := 1) rfl)
theorem wm_28_2 : Cond.methodLink RL 97 yX8_seen ∈ wsL_law := wsr_28 _ (List.mem_of_getElem? (i := 2) rfl)
theorem wm_28_3 : Cond.instanceMethod yX8_seen ∈ wsL_law := wsr_28 _ (List.mem_of_getElem? (i := 3) rfl)
theorem wm_28_4 : Cond.selects RX8 yX8_seen yX8_seen ∈ wsL_law := wsr_28 _ (List.mem_of_getElem? (i := 4) rfl)
theorem wm_28_5 : Cond.code yX8_seen cX8_seen 4 (some .int) ∈ wsL_law := wsr_28 _ (List.mem_of_getElem? (i := 5) rfl)
theorem wm_28_6 : Cond.constantLong RX8 274 (255) ∈ wsL_law := wsr_28 _ (List.mem_of_getElem? (i := 6) rfl)
theorem wm_28_7 : Cond.fieldLink RX8 276 "AbbeyNotesModel" "sights" "I" ∈ wsL_law := wsr_28 _ (List.mem_of_getElem? (i := 7) rfl)
theorem wm_28_8 : Cond.methodLink RL 98 yX7_forget ∈ wsL_law := wsr_28 _ (List.mem_of_getElem? (i := 8) rfl)
theorem wm_28_9 : Cond.instanceMethod yX7_forget ∈ wsL_law := wsr_28 _ (List.mem_of_getElem? (i := 9) rfl)
theorem wm_28_10 : Cond.selects RX7 yX7_forget yX7_forget ∈ wsL_law := wsr_28 _ (List.mem_of_getElem? (i := 10) rfl)
theorem wm_28_11 : Cond.code yX7_forget cX7_forget 2 (some .int) ∈ wsL_law := wsr_28 _ (List.mem_of_getElem? (i := 11) rfl)
theorem wm_28_12 : Cond.methodLink RL 101 yX8_forget ∈ wsL_law := wsr_28 _ (List.mem_of_getElem? (i := 12) rfl)
theorem wm_28_13 : Cond.instanceMethod yX8_forget ∈ wsL_law := wsr_28 _ (List.mem_of_getElem? (i := 13) rfl)
theorem wm_28_14 : Cond.selects RX8 yX8_forget yX8_forget ∈ wsL_law := wsr_28 _ (List.mem_of_getElem? (i := 14) rfl)
theorem wm_28_15 : Cond.code yX8_forget cX8_forget 2 (some .int) ∈ wsL_law := wsr_28 _ (List.mem_of_getElem? (i := 15) rfl)
theorem wm_28_16 : Cond.methodLink RL 102 yX7_clerks ∈ wsL_law := wsr_28 _ (List.mem_of_getElem? (i := 16) rfl)
theorem wm_28_17 : Cond.instanceMethod yX7_clerks ∈ wsL_law := wsr_28 _ (List.mem_of_getElem? (i := 17) rfl)
theorem wm_28_18 : Cond.selects RX7 yX7_clerks yX7_clerks ∈ wsL_law := wsr_28 _ (List.mem_of_getElem? (i := 18) rfl)
theorem wm_28_19 : Cond.code yX7_clerks cX7_clerks 5 (some .int) ∈ wsL_law := wsr_28 _ (List.mem_of_getElem? (i := 19) rfl)
theorem wm_28_20 : Cond.methodLink RX7 195 yX4_fit ∈ wsL_law := wsr_28 _ (List.mem_of_getElem? (i := 20) rfl)
theorem wm_28_21 : Cond.instanceMethod yX4_fit ∈ wsL_law := wsr_28 _ (List.mem_of_getElem? (i := 21) rfl)
theorem wm_28_22 : Cond.selects RX4 yX4_fit yX4_fit ∈ wsL_law := wsr_28 _ (List.mem_of_getElem? (i := 22) rfl)
theorem wm_28_23 : Cond.code yX4_fit cX4_fit 5 (some .boolean) ∈ wsL_law := wsr_28 _ (List.mem_of_getElem? (i := 23) rfl)
theorem wm_29_0 : Cond.methodLink RX4 34 yJ6_bitCount_0f7a4 ∈ wsL_law := wsr_29 _ (List.mem_of_getElem? (i := 0) rfl)
theorem wm_29_1 : Cond.static yJ6_bitCount_0f7a4 ∈ wsL_law := wsr_29 _ (List.mem_of_getElem? (i := 1) rfl)
theorem wm_29_2 : Cond.initialized RJ6 ∈ wsL_law := wsr_29 _ (List.mem_of_getElem? (i := 2) rfl)
theorem wm_29_3 : Cond.code yJ6_bitCount_0f7a4 cJ6_bitCount_0f7a4 1 (some .int) ∈ wsL_law := wsr_29 _ (List.mem_of_getElem? (i := 3) rfl)
theorem wm_29_4 : Cond.constant RJ6 265 (1431655765) ∈ wsL_law := wsr_29 _ (List.mem_of_getElem? (i := 4) rfl)
theorem wm_29_5 : Cond.constant RJ6 266 (858993459) ∈ wsL_law := wsr_29 _ (List.mem_of_getElem? (i := 5) rfl)
theorem wm_29_6 : Cond.constant RJ6 267 (252645135) ∈ wsL_law := wsr_29 _ (List.mem_of_getElem? (i := 6) rfl)
theorem wm_29_7 : Cond.methodLink RL 105 yX8_clerks ∈ wsL_law := wsr_29 _ (List.mem_of_getElem? (i := 7) rfl)
theorem wm_29_8 : Cond.instanceMethod yX8_clerks ∈ wsL_law := wsr_29 _ (List.mem_of_getElem? (i := 8) rfl)
theorem wm_29_9 : Cond.selects RX8 yX8_clerks yX8_clerks ∈ wsL_law := wsr_29 _ (List.mem_of_getElem? (i := 9) rfl)
theorem wm_29_10 : Cond.code yX8_clerks cX8_clerks 5 (some .int) ∈ wsL_law := wsr_29 _ (List.mem_of_getElem? (i := 10) rfl)
theorem wm_29_11 : Cond.methodLink RX8 282 yX8_fits ∈ wsL_law := wsr_29 _ (List.mem_of_getElem? (i := 11) rfl)
theorem wm_29_12 : Cond.instanceMethod yX8_fits ∈ wsL_law := wsr_29 _ (List.mem_of_getElem? (i := 12) rfl)
theorem wm_29_13 : Cond.selects RX8 yX8_fits yX8_fits ∈ wsL_law := wsr_29 _ (List.mem_of_getElem? (i := 13) rfl)
theorem wm_29_14 : Cond.code yX8_fits cX8_fits 6 (some .boolean) ∈ wsL_law := wsr_29 _ (List.mem_of_getElem? (i := 14) rfl)
theorem wm_29_15 : Cond.methodLink RX8 279 yX8_bitsOf ∈ wsL_law := wsr_29 _ (List.mem_of_getElem? (i := 15) rfl)
theorem wm_29_16 : Cond.static yX8_bitsOf ∈ wsL_law := wsr_29 _ (List.mem_of_getElem? (i := 16) rfl)
theorem wm_29_17 : Cond.code yX8_bitsOf cX8_bitsOf 3 (some .int) ∈ wsL_law := wsr_29 _ (List.mem_of_getElem? (i := 17) rfl)
theorem wm_29_18 : Cond.methodLink RL 106 yX7_count ∈ wsL_law := wsr_29 _ (List.mem_of_getElem? (i := 18) rfl)
theorem wm_29_19 : Cond.instanceMethod yX7_count ∈ wsL_law := wsr_29 _ (List.mem_of_getElem? (i := 19) rfl)
theorem wm_29_20 : Cond.selects RX7 yX7_count yX7_count ∈ wsL_law := wsr_29 _ (List.mem_of_getElem? (i := 20) rfl)
theorem wm_29_21 : Cond.code yX7_count cX7_count 6 (some .int) ∈ wsL_law := wsr_29 _ (List.mem_of_getElem? (i := 21) rfl)
theorem wm_29_22 : Cond.methodLink RX7 199 yX4_tally ∈ wsL_law := wsr_29 _ (List.mem_of_getElem? (i := 22) rfl)
theorem wm_29_23 : Cond.instanceMethod yX4_tally ∈ wsL_law := wsr_29 _ (List.mem_of_getElem? (i := 23) rfl)
theorem wm_30_0 : Cond.selects RX4 yX4_tally yX4_tally ∈ wsL_law := wsr_30 _ (List.mem_of_getElem? (i := 0) rfl)
theorem wm_30_1 : Cond.code yX4_tally cX4_tally 5 (some .int) ∈ wsL_law := wsr_30 _ (List.mem_of_getElem? (i := 1) rfl)
theorem wm_30_2 : Cond.methodLink RX4 40 yX4_fit ∈ wsL_law := wsr_30 _ (List.mem_of_getElem? (i := 2) rfl)
theorem wm_30_3 : Cond.methodLink RX7 202 yX4_mostLeft ∈ wsL_law := wsr_30 _ (List.mem_of_getElem? (i := 3) rfl)
theorem wm_30_4 : Cond.instanceMethod yX4_mostLeft ∈ wsL_law := wsr_30 _ (List.mem_of_getElem? (i := 4) rfl)
theorem wm_30_5 : Cond.selects RX4 yX4_mostLeft yX4_mostLeft ∈ wsL_law := wsr_30 _ (List.mem_of_getElem? (i := 5) rfl)
theorem wm_30_6 : Cond.code yX4_mostLeft cX4_mostLeft 3 (some .int) ∈ wsL_law := wsr_30 _ (List.mem_of_getElem? (i := 6) rfl)
theorem wm_30_7 : Cond.methodLink RX4 44 Lib.Math.max.name ∈ wsL_law := wsr_30 _ (List.mem_of_getElem? (i := 7) rfl)
theorem wm_30_8 : Cond.methodLink RL 109 yX8_count ∈ wsL_law := wsr_30 _ (List.mem_of_getElem? (i := 8) rfl)
theorem wm_30_9 : Cond.instanceMethod yX8_count ∈ wsL_law := wsr_30 _ (List.mem_of_getElem? (i := 9) rfl)
theorem wm_30_10 : Cond.selects RX8 yX8_count yX8_count ∈ wsL_law := wsr_30 _ (List.mem_of_getElem? (i := 10) rfl)
theorem wm_30_11 : Cond.code yX8_count cX8_count 7 (some .int) ∈ wsL_law := wsr_30 _ (List.mem_of_getElem? (i := 11) rfl)
theorem wm_30_12 : Cond.methodLink RX8 286 yX8_mostLeft ∈ wsL_law := wsr_30 _ (List.mem_of_getElem? (i := 12) rfl)
theorem wm_30_13 : Cond.instanceMethod yX8_mostLeft ∈ wsL_law := wsr_30 _ (List.mem_of_getElem? (i := 13) rfl)
theorem wm_30_14 : Cond.selects RX8 yX8_mostLeft yX8_mostLeft ∈ wsL_law := wsr_30 _ (List.mem_of_getElem? (i := 14) rfl)
theorem wm_30_15 : Cond.code yX8_mostLeft cX8_mostLeft 7 (some .int) ∈ wsL_law := wsr_30 _ (List.mem_of_getElem? (i := 15) rfl)
theorem wm_30_16 : Cond.methodLink RL 110 yX7_year ∈ wsL_law := wsr_30 _ (List.mem_of_getElem? (i := 16) rfl)
theorem wm_30_17 : Cond.instanceMethod yX7_year ∈ wsL_law := wsr_30 _ (List.mem_of_getElem? (i := 17) rfl)
theorem wm_30_18 : Cond.selects RX7 yX7_year yX7_year ∈ wsL_law := wsr_30 _ (List.mem_of_getElem? (i := 18) rfl)
theorem wm_30_19 : Cond.code yX7_year cX7_year 8 (some .int) ∈ wsL_law := wsr_30 _ (List.mem_of_getElem? (i := 19) rfl)
theorem wm_30_20 : Cond.constant RX7 205 (65537) ∈ wsL_law := wsr_30 _ (List.mem_of_getElem? (i := 20) rfl)
theorem wm_30_21 : Cond.methodLink RX7 206 yX7_drawnNumber ∈ wsL_law := wsr_30 _ (List.mem_of_getElem? (i := 21) rfl)
theorem wm_30_22 : Cond.static yX7_drawnNumber ∈ wsL_law := wsr_30 _ (List.mem_of_getElem? (i := 22) rfl)
theorem wm_30_23 : Cond.code yX7_drawnNumber cX7_drawnNumber 2 (some .int) ∈ wsL_law := wsr_30 _ (List.mem_of_getElem? (i := 23) rfl)
theorem wm_31_0 : Cond.methodLink RX7 209 yX2_act ∈ wsL_law := wsr_31 _ (List.mem_of_getElem? (i := 0) rfl)
theorem wm_31_1 : Cond.methodLink RX7 213 yJ6_bitCount_0f7a4 ∈ wsL_law := wsr_31 _ (List.mem_of_getElem? (i := 1) rfl)
theorem wm_31_2 : Cond.methodLink RL 113 yX8_year ∈ wsL_law := wsr_31 _ (List.mem_of_getElem? (i := 2) rfl)
theorem wm_31_3 : Cond.instanceMethod yX8_year ∈ wsL_law := wsr_31 _ (List.mem_of_getElem? (i := 3) rfl)
theorem wm_31_4 : Cond.selects RX8 yX8_year yX8_year ∈ wsL_law := wsr_31 _ (List.mem_of_getElem? (i := 4) rfl)
theorem wm_31_5 : Cond.code yX8_year cX8_year 9 (some .int) ∈ wsL_law := wsr_31 _ (List.mem_of_getElem? (i := 5) rfl)
theorem wm_31_6 : Cond.constantLong RX8 289 (75) ∈ wsL_law := wsr_31 _ (List.mem_of_getElem? (i := 6) rfl)
theorem wm_31_7 : Cond.constantLong RX8 291 (74) ∈ wsL_law := wsr_31 _ (List.mem_of_getElem? (i := 7) rfl)
theorem wm_31_8 : Cond.constantLong RX8 293 (65537) ∈ wsL_law := wsr_31 _ (List.mem_of_getElem? (i := 8) rfl)
theorem wm_31_9 : Cond.methodLink RX8 295 yX8_actBy ∈ wsL_law := wsr_31 _ (List.mem_of_getElem? (i := 9) rfl)
theorem wm_31_10 : Cond.static yX8_actBy ∈ wsL_law := wsr_31 _ (List.mem_of_getElem? (i := 10) rfl)
theorem wm_31_11 : Cond.code yX8_actBy cX8_actBy 1 (some .int) ∈ wsL_law := wsr_31 _ (List.mem_of_getElem? (i := 11) rfl)
theorem wm_31_12 : Cond.methodLink RX8 298 yX8_muchBy ∈ wsL_law := wsr_31 _ (List.mem_of_getElem? (i := 12) rfl)
theorem wm_31_13 : Cond.static yX8_muchBy ∈ wsL_law := wsr_31 _ (List.mem_of_getElem? (i := 13) rfl)
theorem wm_31_14 : Cond.code yX8_muchBy cX8_muchBy 2 (some .int) ∈ wsL_law := wsr_31 _ (List.mem_of_getElem? (i := 14) rfl)
theorem wm_31_15 : Cond.methodLink RL 114 yX7_image ∈ wsL_law := wsr_31 _ (List.mem_of_getElem? (i := 15) rfl)
theorem wm_31_16 : Cond.instanceMethod yX7_image ∈ wsL_law := wsr_31 _ (List.mem_of_getElem? (i := 16) rfl)
theorem wm_31_17 : Cond.selects RX7 yX7_image yX7_image ∈ wsL_law := wsr_31 _ (List.mem_of_getElem? (i := 17) rfl)
theorem wm_31_18 : Cond.code yX7_image cX7_image 2 (some .int) ∈ wsL_law := wsr_31 _ (List.mem_of_getElem? (i := 18) rfl)
theorem wm_31_19 : Cond.fieldLink RX7 218 "AbbeyNotes$Image" "realm" "LAbbeyNotes$Realm;" ∈ wsL_law := wsr_31 _ (List.mem_of_getElem? (i := 19) rfl)
theorem wm_31_20 : Cond.fieldLink RX7 219 "AbbeyNotes$Image" "sights" "LAbbeyNotes$Sights;" ∈ wsL_law := wsr_31 _ (List.mem_of_getElem? (i := 20) rfl)
theorem wm_31_21 : Cond.fieldLink RX7 223 "AbbeyNotes$Image" "kept" "Z" ∈ wsL_law := wsr_31 _ (List.mem_of_getElem? (i := 21) rfl)
theorem wm_31_22 : Cond.methodLink RX7 220 yX4_copyFrom ∈ wsL_law := wsr_31 _ (List.mem_of_getElem? (i := 22) rfl)
theorem wm_31_23 : Cond.instanceMethod yX4_copyFrom ∈ wsL_law := wsr_31 _ (List.mem_of_getElem? (i := 23) rfl)
theorem wm_32_0 : Cond.selects RX4 yX4_copyFrom yX4_copyFrom ∈ wsL_law := wsr_32 _ (List.mem_of_getElem? (i := 0) rfl)
theorem wm_32_1 : Cond.code yX4_copyFrom cX4_copyFrom 2 none ∈ wsL_law := wsr_32 _ (List.mem_of_getElem? (i := 1) rfl)
theorem wm_32_2 : Cond.methodLink RX4 28 arraycopyName ∈ wsL_law := wsr_32 _ (List.mem_of_getElem? (i := 2) rfl)
theorem wm_32_3 : Cond.methodLink RL 117 yX8_image ∈ wsL_law := wsr_32 _ (List.mem_of_getElem? (i := 3) rfl)
theorem wm_32_4 : Cond.instanceMethod yX8_image ∈ wsL_law := wsr_32 _ (List.mem_of_getElem? (i := 4) rfl)
theorem wm_32_5 : Cond.selects RX8 yX8_image yX8_image ∈ wsL_law := wsr_32 _ (List.mem_of_getElem? (i := 5) rfl)
theorem wm_32_6 : Cond.code yX8_image cX8_image 2 (some .int) ∈ wsL_law := wsr_32 _ (List.mem_of_getElem? (i := 6) rfl)
theorem wm_32_7 : Cond.fieldLink RX8 305 "AbbeyNotesModel" "keptAt" "I" ∈ wsL_law := wsr_32 _ (List.mem_of_getElem? (i := 7) rfl)
theorem wm_32_8 : Cond.fieldLink RX8 301 "AbbeyNotesModel" "isWriting" "Z" ∈ wsL_law := wsr_32 _ (List.mem_of_getElem? (i := 8) rfl)
theorem wm_32_9 : Cond.methodLink RX8 315 yX8_passAll ∈ wsL_law := wsr_32 _ (List.mem_of_getElem? (i := 9) rfl)
theorem wm_32_10 : Cond.instanceMethod yX8_passAll ∈ wsL_law := wsr_32 _ (List.mem_of_getElem? (i := 10) rfl)
theorem wm_32_11 : Cond.selects RX8 yX8_passAll yX8_passAll ∈ wsL_law := wsr_32 _ (List.mem_of_getElem? (i := 11) rfl)
theorem wm_32_12 : Cond.code yX8_passAll cX8_passAll 1 none ∈ wsL_law := wsr_32 _ (List.mem_of_getElem? (i := 12) rfl)
theorem wm_32_13 : Cond.methodLink RX8 308 yX8_pass ∈ wsL_law := wsr_32 _ (List.mem_of_getElem? (i := 13) rfl)
theorem wm_32_14 : Cond.instanceMethod yX8_pass ∈ wsL_law := wsr_32 _ (List.mem_of_getElem? (i := 14) rfl)
theorem wm_32_15 : Cond.selects RX8 yX8_pass yX8_pass ∈ wsL_law := wsr_32 _ (List.mem_of_getElem? (i := 15) rfl)
theorem wm_32_16 : Cond.code yX8_pass cX8_pass 3 (some .int) ∈ wsL_law := wsr_32 _ (List.mem_of_getElem? (i := 16) rfl)
theorem wm_32_17 : Cond.methodLink RX8 311 yX8_passRow ∈ wsL_law := wsr_32 _ (List.mem_of_getElem? (i := 17) rfl)
theorem wm_32_18 : Cond.instanceMethod yX8_passRow ∈ wsL_law := wsr_32 _ (List.mem_of_getElem? (i := 18) rfl)
theorem wm_32_19 : Cond.selects RX8 yX8_passRow yX8_passRow ∈ wsL_law := wsr_32 _ (List.mem_of_getElem? (i := 19) rfl)
theorem wm_32_20 : Cond.code yX8_passRow cX8_passRow 4 none ∈ wsL_law := wsr_32 _ (List.mem_of_getElem? (i := 20) rfl)
theorem wm_32_21 : Cond.methodLink RL 118 yX7_restore ∈ wsL_law := wsr_32 _ (List.mem_of_getElem? (i := 21) rfl)
theorem wm_32_22 : Cond.instanceMethod yX7_restore ∈ wsL_law := wsr_32 _ (List.mem_of_getElem? (i := 22) rfl)
theorem wm_32_23 : Cond.selects RX7 yX7_restore yX7_restore ∈ wsL_law := wsr_32 _ (List.mem_of_getElem? (i := 23) rfl)
theorem wm_33_0 : Cond.code yX7_restore cX7_restore 2 (some .int) ∈ wsL_law := wsr_33 _ (List.mem_of_getElem? (i := 0) rfl)
theorem wm_33_1 : Cond.methodLink RL 121 yX8_restore ∈ wsL_law := wsr_33 _ (List.mem_of_getElem? (i := 1) rfl)
theorem wm_33_2 : Cond.instanceMethod yX8_restore ∈ wsL_law := wsr_33 _ (List.mem_of_getElem? (i := 2) rfl)
theorem wm_33_3 : Cond.selects RX8 yX8_restore yX8_restore ∈ wsL_law := wsr_33 _ (List.mem_of_getElem? (i := 3) rfl)
theorem wm_33_4 : Cond.code yX8_restore cX8_restore 2 (some .int) ∈ wsL_law := wsr_33 _ (List.mem_of_getElem? (i := 4) rfl)
theorem wm_33_5 : Cond.methodLink RL 122 yX7_told ∈ wsL_law := wsr_33 _ (List.mem_of_getElem? (i := 5) rfl)
theorem wm_33_6 : Cond.instanceMethod yX7_told ∈ wsL_law := wsr_33 _ (List.mem_of_getElem? (i := 6) rfl)
theorem wm_33_7 : Cond.selects RX7 yX7_told yX7_told ∈ wsL_law := wsr_33 _ (List.mem_of_getElem? (i := 7) rfl)
theorem wm_33_8 : Cond.code yX7_told cX7_told 3 (some .int) ∈ wsL_law := wsr_33 _ (List.mem_of_getElem? (i := 8) rfl)
theorem wm_33_9 : Cond.methodLink RX7 227 yX7_toldOfAll ∈ wsL_law := wsr_33 _ (List.mem_of_getElem? (i := 9) rfl)
theorem wm_33_10 : Cond.instanceMethod yX7_toldOfAll ∈ wsL_law := wsr_33 _ (List.mem_of_getElem? (i := 10) rfl)
theorem wm_33_11 : Cond.selects RX7 yX7_toldOfAll yX7_toldOfAll ∈ wsL_law := wsr_33 _ (List.mem_of_getElem? (i := 11) rfl)
theorem wm_33_12 : Cond.code yX7_toldOfAll cX7_toldOfAll 2 (some .int) ∈ wsL_law := wsr_33 _ (List.mem_of_getElem? (i := 12) rfl)
theorem wm_33_13 : Cond.methodLink RX7 230 yX7_toldOfOne ∈ wsL_law := wsr_33 _ (List.mem_of_getElem? (i := 13) rfl)
theorem wm_33_14 : Cond.instanceMethod yX7_toldOfOne ∈ wsL_law := wsr_33 _ (List.mem_of_getElem? (i := 14) rfl)
theorem wm_33_15 : Cond.selects RX7 yX7_toldOfOne yX7_toldOfOne ∈ wsL_law := wsr_33 _ (List.mem_of_getElem? (i := 15) rfl)
theorem wm_33_16 : Cond.code yX7_toldOfOne cX7_toldOfOne 3 (some .int) ∈ wsL_law := wsr_33 _ (List.mem_of_getElem? (i := 16) rfl)
theorem wm_33_17 : Cond.methodLink RX7 233 yX7_toldOfLot ∈ wsL_law := wsr_33 _ (List.mem_of_getElem? (i := 17) rfl)
theorem wm_33_18 : Cond.instanceMethod yX7_toldOfLot ∈ wsL_law := wsr_33 _ (List.mem_of_getElem? (i := 18) rfl)
theorem wm_33_19 : Cond.selects RX7 yX7_toldOfLot yX7_toldOfLot ∈ wsL_law := wsr_33 _ (List.mem_of_getElem? (i := 19) rfl)
theorem wm_33_20 : Cond.code yX7_toldOfLot cX7_toldOfLot 3 (some .int) ∈ wsL_law := wsr_33 _ (List.mem_of_getElem? (i := 20) rfl)
theorem wm_33_21 : Cond.methodLink RX7 236 yX7_toldOfDebt ∈ wsL_law := wsr_33 _ (List.mem_of_getElem? (i := 21) rfl)
theorem wm_33_22 : Cond.instanceMethod yX7_toldOfDebt ∈ wsL_law := wsr_33 _ (List.mem_of_getElem? (i := 22) rfl)
theorem wm_33_23 : Cond.selects RX7 yX7_toldOfDebt yX7_toldOfDebt ∈ wsL_law := wsr_33 _ (List.mem_of_getElem? (i := 23) rfl)
theorem wm_34_0 : Cond.code yX7_toldOfDebt cX7_toldOfDebt 3 (some .int) ∈ wsL_law := wsr_34 _ (List.mem_of_getElem? (i := 0) rfl)
theorem wm_34_1 : Cond.methodLink RL 125 yX8_told ∈ wsL_law := wsr_34 _ (List.mem_of_getElem? (i := 1) rfl)
theorem wm_34_2 : Cond.instanceMethod yX8_told ∈ wsL_law := wsr_34 _ (List.mem_of_getElem? (i := 2) rfl)
theorem wm_34_3 : Cond.selects RX8 yX8_told yX8_told ∈ wsL_law := wsr_34 _ (List.mem_of_getElem? (i := 3) rfl)
theorem wm_34_4 : Cond.code yX8_told cX8_told 3 (some .int) ∈ wsL_law := wsr_34 _ (List.mem_of_getElem? (i := 4) rfl)
theorem wm_34_5 : Cond.constantLong RX8 318 (200) ∈ wsL_law := wsr_34 _ (List.mem_of_getElem? (i := 5) rfl)
theorem wm_34_6 : Cond.constantLong RX8 320 (259) ∈ wsL_law := wsr_34 _ (List.mem_of_getElem? (i := 6) rfl)
theorem wm_34_7 : Cond.constantLong RX8 322 (179) ∈ wsL_law := wsr_34 _ (List.mem_of_getElem? (i := 7) rfl)
theorem wm_34_8 : Cond.constantLong RX8 324 (69) ∈ wsL_law := wsr_34 _ (List.mem_of_getElem? (i := 8) rfl)
theorem wm_34_9 : Cond.methodLink RX8 326 yX8_toldOfOne ∈ wsL_law := wsr_34 _ (List.mem_of_getElem? (i := 9) rfl)
theorem wm_34_10 : Cond.instanceMethod yX8_toldOfOne ∈ wsL_law := wsr_34 _ (List.mem_of_getElem? (i := 10) rfl)
theorem wm_34_11 : Cond.selects RX8 yX8_toldOfOne yX8_toldOfOne ∈ wsL_law := wsr_34 _ (List.mem_of_getElem? (i := 11) rfl)
theorem wm_34_12 : Cond.code yX8_toldOfOne cX8_toldOfOne 3 (some .int) ∈ wsL_law := wsr_34 _ (List.mem_of_getElem? (i := 12) rfl)
theorem wm_34_13 : Cond.methodLink RX8 329 yX8_toldOfAll ∈ wsL_law := wsr_34 _ (List.mem_of_getElem? (i := 13) rfl)
theorem wm_34_14 : Cond.instanceMethod yX8_toldOfAll ∈ wsL_law := wsr_34 _ (List.mem_of_getElem? (i := 14) rfl)
theorem wm_34_15 : Cond.selects RX8 yX8_toldOfAll yX8_toldOfAll ∈ wsL_law := wsr_34 _ (List.mem_of_getElem? (i := 15) rfl)
theorem wm_34_16 : Cond.code yX8_toldOfAll cX8_toldOfAll 2 (some .int) ∈ wsL_law := wsr_34 _ (List.mem_of_getElem? (i := 16) rfl)
