section
-- ===== PART A: goes FIRST, ahead of the names: the tables' words, and 'selects' of the private methods out of them =====
/-- a private method of a class that the tables say can be made, by its rows of tables_1 -/
def lw_okq (q : MethodName × Nat) : Prop := (q.1.cls ≠ "java/lang/invoke/MethodHandle" ∧ q.1.cls ≠ "java/lang/invoke/VarHandle") ∧ Cond.instantiable q.1.cls q.2 ∈ tables_1 ∧ Cond.privateMethod q.1 ∈ tables_1 ∧ Cond.instanceMethod q.1 ∈ tables_1
theorem lw_p0 : lw_okq (⟨"SendPolicy$Sender", "writeDotted", "()V"⟩, 5) := ⟨⟨by decide +kernel, by decide +kernel⟩, List.mem_of_getElem? (i := 64) (by decide +kernel), List.mem_of_getElem? (i := 332) (by decide +kernel), List.mem_of_getElem? (i := 333) (by decide +kernel)⟩
theorem lw_p1 : lw_okq (⟨"SendPolicy$Term", "readAll", "(LSendPolicy$Bytes;II)Z"⟩, 6) := ⟨⟨by decide +kernel, by decide +kernel⟩, List.mem_of_getElem? (i := 117) (by decide +kernel), List.mem_of_getElem? (i := 456) (by decide +kernel), List.mem_of_getElem? (i := 457) (by decide +kernel)⟩
theorem lw_p2 : lw_okq (⟨"SendPolicy$Term", "readTarget", "(ILSendPolicy$Bytes;II)Z"⟩, 6) := ⟨⟨by decide +kernel, by decide +kernel⟩, List.mem_of_getElem? (i := 117) (by decide +kernel), List.mem_of_getElem? (i := 463) (by decide +kernel), List.mem_of_getElem? (i := 464) (by decide +kernel)⟩
theorem lw_p3 : lw_okq (⟨"SendPolicy$Term", "readHost", "(ILSendPolicy$Bytes;II)Z"⟩, 6) := ⟨⟨by decide +kernel, by decide +kernel⟩, List.mem_of_getElem? (i := 117) (by decide +kernel), List.mem_of_getElem? (i := 481) (by decide +kernel), List.mem_of_getElem? (i := 482) (by decide +kernel)⟩
theorem lw_p4 : lw_okq (⟨"SendPolicy$Term", "readBits", "(LSendPolicy$Bytes;II)Z"⟩, 6) := ⟨⟨by decide +kernel, by decide +kernel⟩, List.mem_of_getElem? (i := 117) (by decide +kernel), List.mem_of_getElem? (i := 485) (by decide +kernel), List.mem_of_getElem? (i := 486) (by decide +kernel)⟩
theorem lw_p5 : lw_okq (⟨"SendPolicy$Term", "readNetwork", "(LSendPolicy$Bytes;II)Z"⟩, 6) := ⟨⟨by decide +kernel, by decide +kernel⟩, List.mem_of_getElem? (i := 117) (by decide +kernel), List.mem_of_getElem? (i := 492) (by decide +kernel), List.mem_of_getElem? (i := 493) (by decide +kernel)⟩
theorem lw_p6 : lw_okq (⟨"SendPolicy$Term", "readFour", "(LSendPolicy$Bytes;II)Z"⟩, 6) := ⟨⟨by decide +kernel, by decide +kernel⟩, List.mem_of_getElem? (i := 117) (by decide +kernel), List.mem_of_getElem? (i := 496) (by decide +kernel), List.mem_of_getElem? (i := 497) (by decide +kernel)⟩
theorem lw_p7 : lw_okq (⟨"SendPolicy$Term", "readOther", "(LSendPolicy$Bytes;II)Z"⟩, 6) := ⟨⟨by decide +kernel, by decide +kernel⟩, List.mem_of_getElem? (i := 117) (by decide +kernel), List.mem_of_getElem? (i := 502) (by decide +kernel), List.mem_of_getElem? (i := 503) (by decide +kernel)⟩
theorem lw_p8 : lw_okq (⟨"SendPolicy$Checker", "firstMatch", "(LSendPolicy$Bytes;I)I"⟩, 7) := ⟨⟨by decide +kernel, by decide +kernel⟩, List.mem_of_getElem? (i := 102) (by decide +kernel), List.mem_of_getElem? (i := 525) (by decide +kernel), List.mem_of_getElem? (i := 526) (by decide +kernel)⟩
theorem lw_p9 : lw_okq (⟨"SendPolicy$Checker", "match", "(LSendPolicy$Bytes;I)I"⟩, 7) := ⟨⟨by decide +kernel, by decide +kernel⟩, List.mem_of_getElem? (i := 102) (by decide +kernel), List.mem_of_getElem? (i := 531) (by decide +kernel), List.mem_of_getElem? (i := 532) (by decide +kernel)⟩
theorem lw_p10 : lw_okq (⟨"SendPolicy$Checker", "checkInside", "(LSendPolicy$Bytes;III)I"⟩, 7) := ⟨⟨by decide +kernel, by decide +kernel⟩, List.mem_of_getElem? (i := 102) (by decide +kernel), List.mem_of_getElem? (i := 553) (by decide +kernel), List.mem_of_getElem? (i := 554) (by decide +kernel)⟩
theorem lw_p11 : lw_okq (⟨"SendPolicy$Checker", "countOne", "()Z"⟩, 7) := ⟨⟨by decide +kernel, by decide +kernel⟩, List.mem_of_getElem? (i := 102) (by decide +kernel), List.mem_of_getElem? (i := 557) (by decide +kernel), List.mem_of_getElem? (i := 558) (by decide +kernel)⟩
theorem lw_p12 : lw_okq (⟨"SendPolicy$Macros", "writeParts", "(LSendPolicy$Bytes;IZLSendPolicy$Bytes;)V"⟩, 2) := ⟨⟨by decide +kernel, by decide +kernel⟩, List.mem_of_getElem? (i := 88) (by decide +kernel), List.mem_of_getElem? (i := 574) (by decide +kernel), List.mem_of_getElem? (i := 575) (by decide +kernel)⟩
theorem lw_p13 : lw_okq (⟨"SendPolicy$Checker", "lookUp", "(LSendPolicy$Bytes;LSendPolicy$Term;LSendPolicy$Bytes;)I"⟩, 7) := ⟨⟨by decide +kernel, by decide +kernel⟩, List.mem_of_getElem? (i := 102) (by decide +kernel), List.mem_of_getElem? (i := 586) (by decide +kernel), List.mem_of_getElem? (i := 587) (by decide +kernel)⟩
theorem lw_p14 : lw_okq (⟨"SendPolicy$Checker", "tryExchanges", "(I)I"⟩, 7) := ⟨⟨by decide +kernel, by decide +kernel⟩, List.mem_of_getElem? (i := 102) (by decide +kernel), List.mem_of_getElem? (i := 590) (by decide +kernel), List.mem_of_getElem? (i := 591) (by decide +kernel)⟩
theorem lw_p15 : lw_okq (⟨"SendPolicyModel", "used", "()I"⟩, 22) := ⟨⟨by decide +kernel, by decide +kernel⟩, List.mem_of_getElem? (i := 641) (by decide +kernel), List.mem_of_getElem? (i := 745) (by decide +kernel), List.mem_of_getElem? (i := 746) (by decide +kernel)⟩
def lw_privs_1 : List (MethodName × Nat) := [(⟨"SendPolicy$Sender", "writeDotted", "()V"⟩, 5), (⟨"SendPolicy$Term", "readAll", "(LSendPolicy$Bytes;II)Z"⟩, 6), (⟨"SendPolicy$Term", "readTarget", "(ILSendPolicy$Bytes;II)Z"⟩, 6), (⟨"SendPolicy$Term", "readHost", "(ILSendPolicy$Bytes;II)Z"⟩, 6), (⟨"SendPolicy$Term", "readBits", "(LSendPolicy$Bytes;II)Z"⟩, 6), (⟨"SendPolicy$Term", "readNetwork", "(LSendPolicy$Bytes;II)Z"⟩, 6), (⟨"SendPolicy$Term", "readFour", "(LSendPolicy$Bytes;II)Z"⟩, 6), (⟨"SendPolicy$Term", "readOther", "(LSendPolicy$Bytes;II)Z"⟩, 6), (⟨"SendPolicy$Checker", "firstMatch", "(LSendPolicy$Bytes;I)I"⟩, 7), (⟨"SendPolicy$Checker", "match", "(LSendPolicy$Bytes;I)I"⟩, 7), (⟨"SendPolicy$Checker", "checkInside", "(LSendPolicy$Bytes;III)I"⟩, 7), (⟨"SendPolicy$Checker", "countOne", "()Z"⟩, 7), (⟨"SendPolicy$Macros", "writeParts", "(LSendPolicy$Bytes;IZLSendPolicy$Bytes;)V"⟩, 2), (⟨"SendPolicy$Checker", "lookUp", "(LSendPolicy$Bytes;LSendPolicy$Term;LSendPolicy$Bytes;)I"⟩, 7), (⟨"SendPolicy$Checker", "tryExchanges", "(I)I"⟩, 7), (⟨"SendPolicyModel", "used", "()I"⟩, 22)]
theorem lw_r1 : ∀ q ∈ lw_privs_1, lw_okq q := List.forall_mem_cons.mpr ⟨lw_p0, List.forall_mem_cons.mpr ⟨lw_p1, List.forall_mem_cons.mpr ⟨lw_p2, List.forall_mem_cons.mpr ⟨lw_p3, List.forall_mem_cons.mpr ⟨lw_p4, List.forall_mem_cons.mpr ⟨lw_p5, List.forall_mem_cons.mpr ⟨lw_p6, List.forall_mem_cons.mpr ⟨lw_p7, List.forall_mem_cons.mpr ⟨lw_p8, List.forall_mem_cons.mpr ⟨lw_p9, List.forall_mem_cons.mpr ⟨lw_p10, List.forall_mem_cons.mpr ⟨lw_p11, List.forall_mem_cons.mpr ⟨lw_p12, List.forall_mem_cons.mpr ⟨lw_p13, List.forall_mem_cons.mpr ⟨lw_p14, List.forall_mem_cons.mpr ⟨lw_p15, fun _ h => absurd h List.not_mem_nil⟩⟩⟩⟩⟩⟩⟩⟩⟩⟩⟩⟩⟩⟩⟩⟩
theorem lw_p16 : lw_okq (⟨"SendPolicyModel", "check", "(LSendPolicyModel$Text;I)I"⟩, 22) := ⟨⟨by decide +kernel, by decide +kernel⟩, List.mem_of_getElem? (i := 641) (by decide +kernel), List.mem_of_getElem? (i := 785) (by decide +kernel), List.mem_of_getElem? (i := 786) (by decide +kernel)⟩
theorem lw_p17 : lw_okq (⟨"SendPolicyModel", "isTrouble", "(LSendPolicyModel$Text;)Z"⟩, 22) := ⟨⟨by decide +kernel, by decide +kernel⟩, List.mem_of_getElem? (i := 641) (by decide +kernel), List.mem_of_getElem? (i := 789) (by decide +kernel), List.mem_of_getElem? (i := 790) (by decide +kernel)⟩
theorem lw_p18 : lw_okq (⟨"SendPolicyModel", "isOf", "(IILSendPolicyModel$Text;)Z"⟩, 22) := ⟨⟨by decide +kernel, by decide +kernel⟩, List.mem_of_getElem? (i := 641) (by decide +kernel), List.mem_of_getElem? (i := 793) (by decide +kernel), List.mem_of_getElem? (i := 794) (by decide +kernel)⟩
theorem lw_p19 : lw_okq (⟨"SendPolicyModel", "recordOf", "(LSendPolicyModel$Text;)I"⟩, 22) := ⟨⟨by decide +kernel, by decide +kernel⟩, List.mem_of_getElem? (i := 641) (by decide +kernel), List.mem_of_getElem? (i := 805) (by decide +kernel), List.mem_of_getElem? (i := 806) (by decide +kernel)⟩
theorem lw_p20 : lw_okq (⟨"SendPolicyModel", "readTerm", "([BII)V"⟩, 22) := ⟨⟨by decide +kernel, by decide +kernel⟩, List.mem_of_getElem? (i := 641) (by decide +kernel), List.mem_of_getElem? (i := 825) (by decide +kernel), List.mem_of_getElem? (i := 826) (by decide +kernel)⟩
theorem lw_p21 : lw_okq (⟨"SendPolicyModel", "isQuad", "([BII)Z"⟩, 22) := ⟨⟨by decide +kernel, by decide +kernel⟩, List.mem_of_getElem? (i := 641) (by decide +kernel), List.mem_of_getElem? (i := 848) (by decide +kernel), List.mem_of_getElem? (i := 849) (by decide +kernel)⟩
theorem lw_p22 : lw_okq (⟨"SendPolicyModel", "readHost", "([BIII)V"⟩, 22) := ⟨⟨by decide +kernel, by decide +kernel⟩, List.mem_of_getElem? (i := 641) (by decide +kernel), List.mem_of_getElem? (i := 853) (by decide +kernel), List.mem_of_getElem? (i := 854) (by decide +kernel)⟩
theorem lw_p23 : lw_okq (⟨"SendPolicyModel", "matches", "(LSendPolicyModel$Text;LSendPolicyModel$Text;I)I"⟩, 22) := ⟨⟨by decide +kernel, by decide +kernel⟩, List.mem_of_getElem? (i := 641) (by decide +kernel), List.mem_of_getElem? (i := 859) (by decide +kernel), List.mem_of_getElem? (i := 860) (by decide +kernel)⟩
theorem lw_p24 : lw_okq (⟨"SendPolicyModel", "isSender", "(II)Z"⟩, 22) := ⟨⟨by decide +kernel, by decide +kernel⟩, List.mem_of_getElem? (i := 641) (by decide +kernel), List.mem_of_getElem? (i := 863) (by decide +kernel), List.mem_of_getElem? (i := 864) (by decide +kernel)⟩
theorem lw_p25 : lw_okq (⟨"SendPolicyModel", "expand", "([BIILSendPolicyModel$Text;LSendPolicyModel$Text;)V"⟩, 22) := ⟨⟨by decide +kernel, by decide +kernel⟩, List.mem_of_getElem? (i := 641) (by decide +kernel), List.mem_of_getElem? (i := 867) (by decide +kernel), List.mem_of_getElem? (i := 868) (by decide +kernel)⟩
theorem lw_p26 : lw_okq (⟨"SendPolicyModel", "macroValue", "([BIILSendPolicyModel$Text;LSendPolicyModel$Text;)V"⟩, 22) := ⟨⟨by decide +kernel, by decide +kernel⟩, List.mem_of_getElem? (i := 641) (by decide +kernel), List.mem_of_getElem? (i := 878) (by decide +kernel), List.mem_of_getElem? (i := 879) (by decide +kernel)⟩
theorem lw_p27 : lw_okq (⟨"SendPolicyModel", "part", "(ILSendPolicyModel$Text;)V"⟩, 22) := ⟨⟨by decide +kernel, by decide +kernel⟩, List.mem_of_getElem? (i := 641) (by decide +kernel), List.mem_of_getElem? (i := 883) (by decide +kernel), List.mem_of_getElem? (i := 884) (by decide +kernel)⟩
theorem lw_p28 : lw_okq (⟨"SendPolicyModel", "exchanges", "(LSendPolicyModel$Text;I)I"⟩, 22) := ⟨⟨by decide +kernel, by decide +kernel⟩, List.mem_of_getElem? (i := 641) (by decide +kernel), List.mem_of_getElem? (i := 887) (by decide +kernel), List.mem_of_getElem? (i := 888) (by decide +kernel)⟩
def lw_privs_2 : List (MethodName × Nat) := [(⟨"SendPolicyModel", "check", "(LSendPolicyModel$Text;I)I"⟩, 22), (⟨"SendPolicyModel", "isTrouble", "(LSendPolicyModel$Text;)Z"⟩, 22), (⟨"SendPolicyModel", "isOf", "(IILSendPolicyModel$Text;)Z"⟩, 22), (⟨"SendPolicyModel", "recordOf", "(LSendPolicyModel$Text;)I"⟩, 22), (⟨"SendPolicyModel", "readTerm", "([BII)V"⟩, 22), (⟨"SendPolicyModel", "isQuad", "([BII)Z"⟩, 22), (⟨"SendPolicyModel", "readHost", "([BIII)V"⟩, 22), (⟨"SendPolicyModel", "matches", "(LSendPolicyModel$Text;LSendPolicyModel$Text;I)I"⟩, 22), (⟨"SendPolicyModel", "isSender", "(II)Z"⟩, 22), (⟨"SendPolicyModel", "expand", "([BIILSendPolicyModel$Text;LSendPolicyModel$Text;)V"⟩, 22), (⟨"SendPolicyModel", "macroValue", "([BIILSendPolicyModel$Text;LSendPolicyModel$Text;)V"⟩, 22), (⟨"SendPolicyModel", "part", "(ILSendPolicyModel$Text;)V"⟩, 22), (⟨"SendPolicyModel", "exchanges", "(LSendPolicyModel$Text;I)I"⟩, 22)]
theorem lw_r2 : ∀ q ∈ lw_privs_2, lw_okq q := List.forall_mem_cons.mpr ⟨lw_p16, List.forall_mem_cons.mpr ⟨lw_p17, List.forall_mem_cons.mpr ⟨lw_p18, List.forall_mem_cons.mpr ⟨lw_p19, List.forall_mem_cons.mpr ⟨lw_p20, List.forall_mem_cons.mpr ⟨lw_p21, List.forall_mem_cons.mpr ⟨lw_p22, List.forall_mem_cons.mpr ⟨lw_p23, List.forall_mem_cons.mpr ⟨lw_p24, List.forall_mem_cons.mpr ⟨lw_p25, List.forall_mem_cons.mpr ⟨lw_p26, List.forall_mem_cons.mpr ⟨lw_p27, List.forall_mem_cons.mpr ⟨lw_p28, fun _ h => absurd h List.not_mem_nil⟩⟩⟩⟩⟩⟩⟩⟩⟩⟩⟩⟩⟩
def lw_privs : List (MethodName × Nat) := lw_privs_1 ++ (lw_privs_2)
def lw_tbl : List Cond := k2_sels lw_privs ++ tables_1
theorem lw_privs_ok : ∀ q ∈ lw_privs, lw_okq q := by
  show ∀ q ∈ lw_privs_1 ++ (lw_privs_2), lw_okq q
  exact List.forall_mem_append.mpr ⟨lw_r1, lw_r2⟩
end
section
/-! NAMES: printed by wip/gen/names.py: classes, fields, codes, texts -/
def R_By : String := "SendPolicy$Bytes"
def F_By : u_T := fun k => match k with
  | 0 => ("SendPolicy$Bytes", "limit", "I", true)
  | 1 => ("SendPolicy$Bytes", "room", "[B", false)
  | _ => ("SendPolicy$Bytes", "size", "I", false)
def t_By : Nat → FieldType := fun k => match k with
  | 0 => .int
  | 1 => .array .byte
  | _ => .int
abbrev cBy : Nat := 0
def R_En : String := "SendPolicy$Entry"
def F_En : u_T := fun k => match k with
  | 0 => ("SendPolicy$Entry", "sort", "I", true)
  | 1 => ("SendPolicy$Entry", "address", "I", true)
  | 2 => ("SendPolicy$Entry", "name", "LSendPolicy$Bytes;", true)
  | _ => ("SendPolicy$Entry", "value", "LSendPolicy$Bytes;", true)
def t_En : Nat → FieldType := fun k => match k with
  | 0 => .int
  | 1 => .int
  | 2 => .object "SendPolicy$Bytes"
  | _ => .object "SendPolicy$Bytes"
abbrev cEn : Nat := 1
def R_Di : String := "SendPolicy$Directory"
def F_Di : u_T := fun k => match k with
  | 0 => ("SendPolicy$Directory", "entries", "[LSendPolicy$Entry;", true)
  | _ => ("SendPolicy$Directory", "size", "I", false)
def t_Di : Nat → FieldType := fun k => match k with
  | 0 => .array (.object "SendPolicy$Entry")
  | _ => .int
abbrev cDi : Nat := 2
def R_Se : String := "SendPolicy$Sender"
def F_Se : u_T := fun k => match k with
  | 0 => ("SendPolicy$Sender", "mailbox", "LSendPolicy$Bytes;", true)
  | 1 => ("SendPolicy$Sender", "local", "LSendPolicy$Bytes;", true)
  | 2 => ("SendPolicy$Sender", "domain", "LSendPolicy$Bytes;", true)
  | 3 => ("SendPolicy$Sender", "dotted", "LSendPolicy$Bytes;", true)
  | _ => ("SendPolicy$Sender", "address", "I", false)
def t_Se : Nat → FieldType := fun k => match k with
  | 0 => .object "SendPolicy$Bytes"
  | 1 => .object "SendPolicy$Bytes"
  | 2 => .object "SendPolicy$Bytes"
  | 3 => .object "SendPolicy$Bytes"
  | _ => .int
abbrev cSe : Nat := 3
def R_Ma : String := "SendPolicy$Macros"
def F_Ma : u_T := fun k => match k with
  | 0 => ("SendPolicy$Macros", "sender", "LSendPolicy$Sender;", true)
  | _ => ("SendPolicy$Macros", "starts", "[I", true)
def t_Ma : Nat → FieldType := fun k => match k with
  | 0 => .object "SendPolicy$Sender"
  | _ => .array .int
abbrev cMa : Nat := 4
def R_Te : String := "SendPolicy$Term"
def F_Te : u_T := fun k => match k with
  | 0 => ("SendPolicy$Term", "kind", "I", false)
  | 1 => ("SendPolicy$Term", "sign", "I", false)
  | 2 => ("SendPolicy$Term", "bits", "I", false)
  | 3 => ("SendPolicy$Term", "network", "I", false)
  | 4 => ("SendPolicy$Term", "from", "I", false)
  | _ => ("SendPolicy$Term", "to", "I", false)
def t_Te : Nat → FieldType := fun k => match k with
  | 0 => .int
  | 1 => .int
  | 2 => .int
  | 3 => .int
  | 4 => .int
  | _ => .int
abbrev cTe : Nat := 5
def R_Le : String := "SendPolicy$Level"
def F_Le : u_T := fun k => match k with
  | 0 => ("SendPolicy$Level", "name", "LSendPolicy$Bytes;", true)
  | 1 => ("SendPolicy$Level", "term", "LSendPolicy$Term;", true)
  | 2 => ("SendPolicy$Level", "redirectFrom", "I", false)
  | _ => ("SendPolicy$Level", "redirectTo", "I", false)
def t_Le : Nat → FieldType := fun k => match k with
  | 0 => .object "SendPolicy$Bytes"
  | 1 => .object "SendPolicy$Term"
  | 2 => .int
  | _ => .int
abbrev cLe : Nat := 6
def R_Ch : String := "SendPolicy$Checker"
def F_Ch : u_T := fun k => match k with
  | 0 => ("SendPolicy$Checker", "directory", "LSendPolicy$Directory;", true)
  | 1 => ("SendPolicy$Checker", "sender", "LSendPolicy$Sender;", true)
  | 2 => ("SendPolicy$Checker", "macros", "LSendPolicy$Macros;", true)
  | 3 => ("SendPolicy$Checker", "levels", "[LSendPolicy$Level;", true)
  | 4 => ("SendPolicy$Checker", "target", "LSendPolicy$Bytes;", true)
  | 5 => ("SendPolicy$Checker", "counted", "I", false)
  | _ => ("SendPolicy$Checker", "voids", "I", false)
def t_Ch : Nat → FieldType := fun k => match k with
  | 0 => .object "SendPolicy$Directory"
  | 1 => .object "SendPolicy$Sender"
  | 2 => .object "SendPolicy$Macros"
  | 3 => .array (.object "SendPolicy$Level")
  | 4 => .object "SendPolicy$Bytes"
  | 5 => .int
  | _ => .int
abbrev cCh : Nat := 7
def R_Po : String := "SendPolicy"
def F_Po : u_T := fun k => match k with
  | 0 => ("SendPolicy", "tape", "LSendPolicy$Bytes;", true)
  | 1 => ("SendPolicy", "out", "LSendPolicy$Bytes;", true)
  | 2 => ("SendPolicy", "directory", "LSendPolicy$Directory;", true)
  | 3 => ("SendPolicy", "sender", "LSendPolicy$Sender;", true)
  | 4 => ("SendPolicy", "macros", "LSendPolicy$Macros;", true)
  | _ => ("SendPolicy", "checker", "LSendPolicy$Checker;", true)
def t_Po : Nat → FieldType := fun k => match k with
  | 0 => .object "SendPolicy$Bytes"
  | 1 => .object "SendPolicy$Bytes"
  | 2 => .object "SendPolicy$Directory"
  | 3 => .object "SendPolicy$Sender"
  | 4 => .object "SendPolicy$Macros"
  | _ => .object "SendPolicy$Checker"
abbrev cPo : Nat := 8
def R_Tx : String := "SendPolicyModel$Text"
def F_Tx : u_T := fun k => match k with
  | 0 => ("SendPolicyModel$Text", "b", "[B", true)
  | _ => ("SendPolicyModel$Text", "n", "I", false)
def t_Tx : Nat → FieldType := fun k => match k with
  | 0 => .array .byte
  | _ => .int
abbrev cTx : Nat := 9
def R_Mo : String := "SendPolicyModel"
def F_Mo : u_T := fun k => match k with
  | 0 => ("SendPolicyModel", "tape", "[B", true)
  | 1 => ("SendPolicyModel", "tapeMany", "I", false)
  | 2 => ("SendPolicyModel", "entries", "I", false)
  | 3 => ("SendPolicyModel", "out", "LSendPolicyModel$Text;", true)
  | 4 => ("SendPolicyModel", "sort", "[I", true)
  | 5 => ("SendPolicyModel", "address", "[I", true)
  | 6 => ("SendPolicyModel", "name", "[LSendPolicyModel$Text;", true)
  | 7 => ("SendPolicyModel", "value", "[LSendPolicyModel$Text;", true)
  | 8 => ("SendPolicyModel", "local", "LSendPolicyModel$Text;", true)
  | 9 => ("SendPolicyModel", "domain", "LSendPolicyModel$Text;", true)
  | 10 => ("SendPolicyModel", "from", "I", false)
  | 11 => ("SendPolicyModel", "sent", "Z", false)
  | 12 => ("SendPolicyModel", "target", "[LSendPolicyModel$Text;", true)
  | 13 => ("SendPolicyModel", "counted", "I", false)
  | 14 => ("SendPolicyModel", "empty", "I", false)
  | 15 => ("SendPolicyModel", "piece", "LSendPolicyModel$Text;", true)
  | 16 => ("SendPolicyModel", "term", "I", false)
  | 17 => ("SendPolicyModel", "sign", "I", false)
  | 18 => ("SendPolicyModel", "dFrom", "I", false)
  | 19 => ("SendPolicyModel", "dTo", "I", false)
  | 20 => ("SendPolicyModel", "width", "I", false)
  | _ => ("SendPolicyModel", "quad", "I", false)
def t_Mo : Nat → FieldType := fun k => match k with
  | 0 => .array .byte
  | 1 => .int
  | 2 => .int
  | 3 => .object "SendPolicyModel$Text"
  | 4 => .array .int
  | 5 => .array .int
  | 6 => .array (.object "SendPolicyModel$Text")
  | 7 => .array (.object "SendPolicyModel$Text")
  | 8 => .object "SendPolicyModel$Text"
  | 9 => .object "SendPolicyModel$Text"
  | 10 => .int
  | 11 => .boolean
  | 12 => .array (.object "SendPolicyModel$Text")
  | 13 => .int
  | 14 => .int
  | 15 => .object "SendPolicyModel$Text"
  | 16 => .int
  | 17 => .int
  | 18 => .int
  | 19 => .int
  | 20 => .int
  | _ => .int
abbrev cMo : Nat := 10
abbrev vwCl : List vw_C := [(R_By, F_By, 3), (R_En, F_En, 4), (R_Di, F_Di, 2), (R_Se, F_Se, 5), (R_Ma, F_Ma, 2), (R_Te, F_Te, 6), (R_Le, F_Le, 4), (R_Ch, F_Ch, 7), (R_Po, F_Po, 6), (R_Tx, F_Tx, 2), (R_Mo, F_Mo, 22)]
abbrev b_Arr_copyOf : ByteArray := prog_20_method_121_code
def y_Arr_copyOf : MethodName := ⟨"java/util/Arrays", "copyOf", "([BI)[B"⟩
abbrev b_By_add : ByteArray := prog_2_method_5_code
def y_By_add : MethodName := ⟨"SendPolicy$Bytes", "add", "(I)V"⟩
abbrev b_By_addFour : ByteArray := prog_2_method_6_code
def y_By_addFour : MethodName := ⟨"SendPolicy$Bytes", "addFour", "(I)V"⟩
abbrev b_By_addNumber : ByteArray := prog_2_method_8_code
def y_By_addNumber : MethodName := ⟨"SendPolicy$Bytes", "addNumber", "(I)V"⟩
abbrev b_By_addPart : ByteArray := prog_2_method_7_code
def y_By_addPart : MethodName := ⟨"SendPolicy$Bytes", "addPart", "(LSendPolicy$Bytes;II)V"⟩
abbrev b_By_at : ByteArray := prog_2_method_3_code
def y_By_at : MethodName := ⟨"SendPolicy$Bytes", "at", "(I)I"⟩
abbrev b_By_cut : ByteArray := prog_2_method_4_code
def y_By_cut : MethodName := ⟨"SendPolicy$Bytes", "cut", "(I)V"⟩
abbrev b_By_find : ByteArray := prog_2_method_9_code
def y_By_find : MethodName := ⟨"SendPolicy$Bytes", "find", "(III)I"⟩
abbrev b_By_has : ByteArray := prog_2_method_11_code
def y_By_has : MethodName := ⟨"SendPolicy$Bytes", "has", "(Ljava/lang/String;II)Z"⟩
abbrev b_By_init : ByteArray := prog_2_method_1_code
def y_By_init : MethodName := ⟨"SendPolicy$Bytes", "<init>", "(I)V"⟩
abbrev b_By_same : ByteArray := prog_2_method_10_code
def y_By_same : MethodName := ⟨"SendPolicy$Bytes", "same", "(LSendPolicy$Bytes;)Z"⟩
abbrev b_By_size : ByteArray := prog_2_method_2_code
def y_By_size : MethodName := ⟨"SendPolicy$Bytes", "size", "()I"⟩
abbrev b_Ch_asIncluded : ByteArray := prog_3_method_9_code
def y_Ch_asIncluded : MethodName := ⟨"SendPolicy$Checker", "asIncluded", "(I)I"⟩
abbrev b_Ch_begin : ByteArray := prog_3_method_4_code
def y_Ch_begin : MethodName := ⟨"SendPolicy$Checker", "begin", "()V"⟩
abbrev b_Ch_check : ByteArray := prog_3_method_5_code
def y_Ch_check : MethodName := ⟨"SendPolicy$Checker", "check", "(I)I"⟩
abbrev b_Ch_checkInside : ByteArray := prog_3_method_10_code
def y_Ch_checkInside : MethodName := ⟨"SendPolicy$Checker", "checkInside", "(LSendPolicy$Bytes;III)I"⟩
abbrev b_Ch_countOne : ByteArray := prog_3_method_8_code
def y_Ch_countOne : MethodName := ⟨"SendPolicy$Checker", "countOne", "()Z"⟩
abbrev b_Ch_counted : ByteArray := prog_3_method_2_code
def y_Ch_counted : MethodName := ⟨"SendPolicy$Checker", "counted", "()I"⟩
abbrev b_Ch_firstMatch : ByteArray := prog_3_method_6_code
def y_Ch_firstMatch : MethodName := ⟨"SendPolicy$Checker", "firstMatch", "(LSendPolicy$Bytes;I)I"⟩
abbrev b_Ch_init : ByteArray := prog_3_method_1_code
def y_Ch_init : MethodName := ⟨"SendPolicy$Checker", "<init>", "(LSendPolicy$Directory;LSendPolicy$Sender;LSendPolicy$Macros;)V"⟩
abbrev b_Ch_lookUp : ByteArray := prog_3_method_11_code
def y_Ch_lookUp : MethodName := ⟨"SendPolicy$Checker", "lookUp", "(LSendPolicy$Bytes;LSendPolicy$Term;LSendPolicy$Bytes;)I"⟩
abbrev b_Ch_match : ByteArray := prog_3_method_7_code
def y_Ch_match : MethodName := ⟨"SendPolicy$Checker", "match", "(LSendPolicy$Bytes;I)I"⟩
abbrev b_Ch_tryExchanges : ByteArray := prog_3_method_12_code
def y_Ch_tryExchanges : MethodName := ⟨"SendPolicy$Checker", "tryExchanges", "(I)I"⟩
abbrev b_Ch_voids : ByteArray := prog_3_method_3_code
def y_Ch_voids : MethodName := ⟨"SendPolicy$Checker", "voids", "()I"⟩
abbrev b_Di_clear : ByteArray := prog_4_method_3_code
def y_Di_clear : MethodName := ⟨"SendPolicy$Directory", "clear", "()V"⟩
abbrev b_Di_exchangeAt : ByteArray := prog_4_method_10_code
def y_Di_exchangeAt : MethodName := ⟨"SendPolicy$Directory", "exchangeAt", "(ILSendPolicy$Bytes;)LSendPolicy$Bytes;"⟩
abbrev b_Di_has : ByteArray := prog_4_method_6_code
def y_Di_has : MethodName := ⟨"SendPolicy$Directory", "has", "(ILSendPolicy$Bytes;)Z"⟩
abbrev b_Di_init : ByteArray := prog_4_method_1_code
def y_Di_init : MethodName := ⟨"SendPolicy$Directory", "<init>", "()V"⟩
abbrev b_Di_isGood : ByteArray := prog_4_method_5_code
def y_Di_isGood : MethodName := ⟨"SendPolicy$Directory", "isGood", "(ILSendPolicy$Bytes;I)Z"⟩
abbrev b_Di_policies : ByteArray := prog_4_method_7_code
def y_Di_policies : MethodName := ⟨"SendPolicy$Directory", "policies", "(LSendPolicy$Bytes;)I"⟩
abbrev b_Di_policy : ByteArray := prog_4_method_8_code
def y_Di_policy : MethodName := ⟨"SendPolicy$Directory", "policy", "(LSendPolicy$Bytes;)LSendPolicy$Bytes;"⟩
abbrev b_Di_reaches : ByteArray := prog_4_method_9_code
def y_Di_reaches : MethodName := ⟨"SendPolicy$Directory", "reaches", "(LSendPolicy$Bytes;II)Z"⟩
abbrev b_Di_sameBits : ByteArray := prog_4_method_11_code
def y_Di_sameBits : MethodName := ⟨"SendPolicy$Directory", "sameBits", "(III)Z"⟩
abbrev b_Di_size : ByteArray := prog_4_method_2_code
def y_Di_size : MethodName := ⟨"SendPolicy$Directory", "size", "()I"⟩
abbrev b_Di_take : ByteArray := prog_4_method_4_code
def y_Di_take : MethodName := ⟨"SendPolicy$Directory", "take", "(IILSendPolicy$Bytes;)Z"⟩
abbrev b_En_init : ByteArray := prog_5_method_1_code
def y_En_init : MethodName := ⟨"SendPolicy$Entry", "<init>", "(IIII)V"⟩
abbrev b_En_isPolicyOf : ByteArray := prog_5_method_2_code
def y_En_isPolicyOf : MethodName := ⟨"SendPolicy$Entry", "isPolicyOf", "(LSendPolicy$Bytes;)Z"⟩
abbrev b_Le_hasRedirect : ByteArray := prog_6_method_3_code
def y_Le_hasRedirect : MethodName := ⟨"SendPolicy$Level", "hasRedirect", "()Z"⟩
abbrev b_Le_init : ByteArray := prog_6_method_1_code
def y_Le_init : MethodName := ⟨"SendPolicy$Level", "<init>", "()V"⟩
abbrev b_Le_readTerms : ByteArray := prog_6_method_2_code
def y_Le_readTerms : MethodName := ⟨"SendPolicy$Level", "readTerms", "(LSendPolicy$Bytes;)Z"⟩
abbrev b_Le_redirectFrom : ByteArray := prog_6_method_4_code
def y_Le_redirectFrom : MethodName := ⟨"SendPolicy$Level", "redirectFrom", "()I"⟩
abbrev b_Le_redirectTo : ByteArray := prog_6_method_5_code
def y_Le_redirectTo : MethodName := ⟨"SendPolicy$Level", "redirectTo", "()I"⟩
abbrev b_Ma_init : ByteArray := prog_7_method_1_code
def y_Ma_init : MethodName := ⟨"SendPolicy$Macros", "<init>", "(LSendPolicy$Sender;)V"⟩
abbrev b_Ma_isMacroLetter : ByteArray := prog_7_method_4_code
def y_Ma_isMacroLetter : MethodName := ⟨"SendPolicy$Macros", "isMacroLetter", "(I)Z"⟩
abbrev b_Ma_isPartNumber : ByteArray := prog_7_method_5_code
def y_Ma_isPartNumber : MethodName := ⟨"SendPolicy$Macros", "isPartNumber", "(I)Z"⟩
abbrev b_Ma_isTarget : ByteArray := prog_7_method_2_code
def y_Ma_isTarget : MethodName := ⟨"SendPolicy$Macros", "isTarget", "(LSendPolicy$Bytes;II)Z"⟩
abbrev b_Ma_macroLength : ByteArray := prog_7_method_3_code
def y_Ma_macroLength : MethodName := ⟨"SendPolicy$Macros", "macroLength", "(LSendPolicy$Bytes;II)I"⟩
abbrev b_Ma_write : ByteArray := prog_7_method_6_code
def y_Ma_write : MethodName := ⟨"SendPolicy$Macros", "write", "(LSendPolicy$Bytes;IILSendPolicy$Bytes;LSendPolicy$Bytes;)V"⟩
abbrev b_Ma_writeParts : ByteArray := prog_7_method_8_code
def y_Ma_writeParts : MethodName := ⟨"SendPolicy$Macros", "writeParts", "(LSendPolicy$Bytes;IZLSendPolicy$Bytes;)V"⟩
abbrev b_Ma_writeSign : ByteArray := prog_7_method_7_code
def y_Ma_writeSign : MethodName := ⟨"SendPolicy$Macros", "writeSign", "(ILSendPolicy$Bytes;)V"⟩
abbrev b_Mo_begins : ByteArray := prog_12_method_5_code
def y_Mo_begins : MethodName := ⟨"SendPolicyModel", "begins", "([BIILjava/lang/String;)Z"⟩
abbrev b_Mo_bits : ByteArray := prog_12_method_19_code
def y_Mo_bits : MethodName := ⟨"SendPolicyModel", "bits", "([BII)I"⟩
abbrev b_Mo_blankFrom : ByteArray := prog_12_method_29_code
def y_Mo_blankFrom : MethodName := ⟨"SendPolicyModel", "blankFrom", "(LSendPolicyModel$Text;I)I"⟩
abbrev b_Mo_check : ByteArray := prog_12_method_31_code
def y_Mo_check : MethodName := ⟨"SendPolicyModel", "check", "(LSendPolicyModel$Text;I)I"⟩
abbrev b_Mo_cost : ByteArray := prog_12_method_16_code
def y_Mo_cost : MethodName := ⟨"SendPolicyModel", "cost", "(I)I"⟩
abbrev b_Mo_end : ByteArray := prog_12_method_8_code
def y_Mo_end : MethodName := ⟨"SendPolicyModel", "end", "(I)I"⟩
abbrev b_Mo_entry : ByteArray := prog_12_method_10_code
def y_Mo_entry : MethodName := ⟨"SendPolicyModel", "entry", "(II)I"⟩
abbrev b_Mo_exchanges : ByteArray := prog_12_method_34_code
def y_Mo_exchanges : MethodName := ⟨"SendPolicyModel", "exchanges", "(LSendPolicyModel$Text;I)I"⟩
abbrev b_Mo_expand1 : ByteArray := prog_12_method_35_code
def y_Mo_expand1 : MethodName := ⟨"SendPolicyModel", "expand", "()I"⟩
abbrev b_Mo_expand2 : ByteArray := prog_12_method_24_code
def y_Mo_expand2 : MethodName := ⟨"SendPolicyModel", "expand", "([BIILSendPolicyModel$Text;LSendPolicyModel$Text;)V"⟩
abbrev b_Mo_feed : ByteArray := prog_12_method_7_code
def y_Mo_feed : MethodName := ⟨"SendPolicyModel", "feed", "(IIIII)I"⟩
abbrev b_Mo_forget : ByteArray := prog_12_method_11_code
def y_Mo_forget : MethodName := ⟨"SendPolicyModel", "forget", "()I"⟩
abbrev b_Mo_in : ByteArray := prog_12_method_1_code
def y_Mo_in : MethodName := ⟨"SendPolicyModel", "in", "(JJJ)Z"⟩
abbrev b_Mo_init : ByteArray := prog_12_method_6_code
def y_Mo_init : MethodName := ⟨"SendPolicyModel", "<init>", "()V"⟩
abbrev b_Mo_is : ByteArray := prog_12_method_4_code
def y_Mo_is : MethodName := ⟨"SendPolicyModel", "is", "([BIILjava/lang/String;)Z"⟩
abbrev b_Mo_isD : ByteArray := prog_12_method_18_code
def y_Mo_isD : MethodName := ⟨"SendPolicyModel", "isD", "([BIIZ)Z"⟩
abbrev b_Mo_isDigit : ByteArray := prog_12_method_3_code
def y_Mo_isDigit : MethodName := ⟨"SendPolicyModel", "isDigit", "(I)Z"⟩
abbrev b_Mo_isOf : ByteArray := prog_12_method_12_code
def y_Mo_isOf : MethodName := ⟨"SendPolicyModel", "isOf", "(IILSendPolicyModel$Text;)Z"⟩
abbrev b_Mo_isQuad : ByteArray := prog_12_method_21_code
def y_Mo_isQuad : MethodName := ⟨"SendPolicyModel", "isQuad", "([BII)Z"⟩
abbrev b_Mo_isSender : ByteArray := prog_12_method_32_code
def y_Mo_isSender : MethodName := ⟨"SendPolicyModel", "isSender", "(II)Z"⟩
abbrev b_Mo_isSmall : ByteArray := prog_12_method_2_code
def y_Mo_isSmall : MethodName := ⟨"SendPolicyModel", "isSmall", "(I)Z"⟩
abbrev b_Mo_isTrouble : ByteArray := prog_12_method_13_code
def y_Mo_isTrouble : MethodName := ⟨"SendPolicyModel", "isTrouble", "(LSendPolicyModel$Text;)Z"⟩
abbrev b_Mo_macro : ByteArray := prog_12_method_17_code
def y_Mo_macro : MethodName := ⟨"SendPolicyModel", "macro", "([BII)I"⟩
abbrev b_Mo_macroValue : ByteArray := prog_12_method_26_code
def y_Mo_macroValue : MethodName := ⟨"SendPolicyModel", "macroValue", "([BIILSendPolicyModel$Text;LSendPolicyModel$Text;)V"⟩
abbrev b_Mo_matches : ByteArray := prog_12_method_33_code
def y_Mo_matches : MethodName := ⟨"SendPolicyModel", "matches", "(LSendPolicyModel$Text;LSendPolicyModel$Text;I)I"⟩
abbrev b_Mo_octet : ByteArray := prog_12_method_36_code
def y_Mo_octet : MethodName := ⟨"SendPolicyModel", "octet", "(I)I"⟩
abbrev b_Mo_part : ByteArray := prog_12_method_27_code
def y_Mo_part : MethodName := ⟨"SendPolicyModel", "part", "(ILSendPolicyModel$Text;)V"⟩
abbrev b_Mo_permission : ByteArray := prog_12_method_15_code
def y_Mo_permission : MethodName := ⟨"SendPolicyModel", "permission", "()I"⟩
abbrev b_Mo_put : ByteArray := prog_12_method_25_code
def y_Mo_put : MethodName := ⟨"SendPolicyModel", "put", "(LSendPolicyModel$Text;I)V"⟩
abbrev b_Mo_readHost : ByteArray := prog_12_method_23_code
def y_Mo_readHost : MethodName := ⟨"SendPolicyModel", "readHost", "([BIII)V"⟩
abbrev b_Mo_readTerm : ByteArray := prog_12_method_22_code
def y_Mo_readTerm : MethodName := ⟨"SendPolicyModel", "readTerm", "([BII)V"⟩
abbrev b_Mo_recordOf : ByteArray := prog_12_method_28_code
def y_Mo_recordOf : MethodName := ⟨"SendPolicyModel", "recordOf", "(LSendPolicyModel$Text;)I"⟩
abbrev b_Mo_sender : ByteArray := prog_12_method_14_code
def y_Mo_sender : MethodName := ⟨"SendPolicyModel", "sender", "(I)I"⟩
abbrev b_Mo_slashOf : ByteArray := prog_12_method_20_code
def y_Mo_slashOf : MethodName := ⟨"SendPolicyModel", "slashOf", "([BII)I"⟩
abbrev b_Mo_used : ByteArray := prog_12_method_9_code
def y_Mo_used : MethodName := ⟨"SendPolicyModel", "used", "()I"⟩
abbrev b_Mo_wordEnd : ByteArray := prog_12_method_30_code
def y_Mo_wordEnd : MethodName := ⟨"SendPolicyModel", "wordEnd", "(LSendPolicyModel$Text;I)I"⟩
abbrev b_Mth_max : ByteArray := prog_15_method_65_code
def y_Mth_max : MethodName := ⟨"java/lang/Math", "max", "(II)I"⟩
abbrev b_Mth_min : ByteArray := prog_15_method_69_code
def y_Mth_min : MethodName := ⟨"java/lang/Math", "min", "(II)I"⟩
abbrev b_Obj_init : ByteArray := object_method_1_code
def y_Obj_init : MethodName := ⟨"java/lang/Object", "<init>", "()V"⟩
abbrev b_Po_cost : ByteArray := prog_1_method_8_code
def y_Po_cost : MethodName := ⟨"SendPolicy", "cost", "(I)I"⟩
abbrev b_Po_end : ByteArray := prog_1_method_3_code
def y_Po_end : MethodName := ⟨"SendPolicy", "end", "(I)I"⟩
abbrev b_Po_entry : ByteArray := prog_1_method_4_code
def y_Po_entry : MethodName := ⟨"SendPolicy", "entry", "(II)I"⟩
abbrev b_Po_expand : ByteArray := prog_1_method_9_code
def y_Po_expand : MethodName := ⟨"SendPolicy", "expand", "()I"⟩
abbrev b_Po_feed : ByteArray := prog_1_method_2_code
def y_Po_feed : MethodName := ⟨"SendPolicy", "feed", "(IIIII)I"⟩
abbrev b_Po_forget : ByteArray := prog_1_method_5_code
def y_Po_forget : MethodName := ⟨"SendPolicy", "forget", "()I"⟩
abbrev b_Po_init : ByteArray := prog_1_method_1_code
def y_Po_init : MethodName := ⟨"SendPolicy", "<init>", "()V"⟩
abbrev b_Po_octet : ByteArray := prog_1_method_10_code
def y_Po_octet : MethodName := ⟨"SendPolicy", "octet", "(I)I"⟩
abbrev b_Po_permission : ByteArray := prog_1_method_7_code
def y_Po_permission : MethodName := ⟨"SendPolicy", "permission", "()I"⟩
abbrev b_Po_sender : ByteArray := prog_1_method_6_code
def y_Po_sender : MethodName := ⟨"SendPolicy", "sender", "(I)I"⟩
abbrev b_Pre_checkIndex : ByteArray := prog_21_method_11_code
def y_Pre_checkIndex : MethodName := ⟨"jdk/internal/util/Preconditions", "checkIndex", "(IILjava/util/function/BiFunction;)I"⟩
abbrev b_SL_charAt : ByteArray := prog_17_method_2_code
def y_SL_charAt : MethodName := ⟨"java/lang/StringLatin1", "charAt", "([BI)C"⟩
abbrev b_SU_charAt : ByteArray := prog_18_method_83_code
def y_SU_charAt : MethodName := ⟨"java/lang/StringUTF16", "charAt", "([BI)C"⟩
abbrev b_SU_checkIndex : ByteArray := prog_18_method_91_code
def y_SU_checkIndex : MethodName := ⟨"java/lang/StringUTF16", "checkIndex", "(I[B)V"⟩
abbrev b_SU_getChar : ByteArray := prog_18_method_5_code
def y_SU_getChar : MethodName := ⟨"java/lang/StringUTF16", "getChar", "([BI)C"⟩
abbrev b_SU_length : ByteArray := prog_18_method_6_code
def y_SU_length : MethodName := ⟨"java/lang/StringUTF16", "length", "([B)I"⟩
abbrev b_Se_address : ByteArray := prog_8_method_3_code
def y_Se_address : MethodName := ⟨"SendPolicy$Sender", "address", "()I"⟩
abbrev b_Se_domain : ByteArray := prog_8_method_4_code
def y_Se_domain : MethodName := ⟨"SendPolicy$Sender", "domain", "()LSendPolicy$Bytes;"⟩
abbrev b_Se_init : ByteArray := prog_8_method_1_code
def y_Se_init : MethodName := ⟨"SendPolicy$Sender", "<init>", "()V"⟩
abbrev b_Se_isKnown : ByteArray := prog_8_method_2_code
def y_Se_isKnown : MethodName := ⟨"SendPolicy$Sender", "isKnown", "()Z"⟩
abbrev b_Se_refill : ByteArray := prog_8_method_6_code
def y_Se_refill : MethodName := ⟨"SendPolicy$Sender", "refill", "(LSendPolicy$Bytes;LSendPolicy$Bytes;II)V"⟩
abbrev b_Se_source : ByteArray := prog_8_method_8_code
def y_Se_source : MethodName := ⟨"SendPolicy$Sender", "source", "(ILSendPolicy$Bytes;)LSendPolicy$Bytes;"⟩
abbrev b_Se_take : ByteArray := prog_8_method_5_code
def y_Se_take : MethodName := ⟨"SendPolicy$Sender", "take", "(ILSendPolicy$Bytes;)Z"⟩
abbrev b_Se_writeDotted : ByteArray := prog_8_method_7_code
def y_Se_writeDotted : MethodName := ⟨"SendPolicy$Sender", "writeDotted", "()V"⟩
abbrev b_Si_isDigit : ByteArray := prog_9_method_2_code
def y_Si_isDigit : MethodName := ⟨"SendPolicy$Signs", "isDigit", "(I)Z"⟩
abbrev b_Si_isLetter : ByteArray := prog_9_method_3_code
def y_Si_isLetter : MethodName := ⟨"SendPolicy$Signs", "isLetter", "(I)Z"⟩
abbrev b_Si_isLocal : ByteArray := prog_9_method_6_code
def y_Si_isLocal : MethodName := ⟨"SendPolicy$Signs", "isLocal", "(LSendPolicy$Bytes;II)Z"⟩
abbrev b_Si_isName : ByteArray := prog_9_method_5_code
def y_Si_isName : MethodName := ⟨"SendPolicy$Signs", "isName", "(LSendPolicy$Bytes;II)Z"⟩
abbrev b_Si_isNameSign : ByteArray := prog_9_method_4_code
def y_Si_isNameSign : MethodName := ⟨"SendPolicy$Signs", "isNameSign", "(I)Z"⟩
abbrev b_Si_isWord : ByteArray := prog_9_method_7_code
def y_Si_isWord : MethodName := ⟨"SendPolicy$Signs", "isWord", "(LSendPolicy$Bytes;II)Z"⟩
abbrev b_Str_charAt : ByteArray := prog_16_method_56_code
def y_Str_charAt : MethodName := ⟨"java/lang/String", "charAt", "(I)C"⟩
abbrev b_Str_checkIndex : ByteArray := prog_16_method_155_code
def y_Str_checkIndex : MethodName := ⟨"java/lang/String", "checkIndex", "(II)V"⟩
abbrev b_Str_coder : ByteArray := prog_16_method_152_code
def y_Str_coder : MethodName := ⟨"java/lang/String", "coder", "()B"⟩
abbrev b_Str_isLatin1 : ByteArray := prog_16_method_154_code
def y_Str_isLatin1 : MethodName := ⟨"java/lang/String", "isLatin1", "()Z"⟩
abbrev b_Str_length : ByteArray := prog_16_method_54_code
def y_Str_length : MethodName := ⟨"java/lang/String", "length", "()I"⟩
abbrev b_Te_bits : ByteArray := prog_10_method_3_code
def y_Te_bits : MethodName := ⟨"SendPolicy$Term", "bits", "()I"⟩
abbrev b_Te_from : ByteArray := prog_10_method_5_code
def y_Te_from : MethodName := ⟨"SendPolicy$Term", "from", "()I"⟩
abbrev b_Te_init : ByteArray := prog_10_method_1_code
def y_Te_init : MethodName := ⟨"SendPolicy$Term", "<init>", "()V"⟩
abbrev b_Te_kind : ByteArray := prog_10_method_2_code
def y_Te_kind : MethodName := ⟨"SendPolicy$Term", "kind", "()I"⟩
abbrev b_Te_network : ByteArray := prog_10_method_4_code
def y_Te_network : MethodName := ⟨"SendPolicy$Term", "network", "()I"⟩
abbrev b_Te_read : ByteArray := prog_10_method_9_code
def y_Te_read : MethodName := ⟨"SendPolicy$Term", "read", "(LSendPolicy$Bytes;I)Z"⟩
abbrev b_Te_readAll : ByteArray := prog_10_method_10_code
def y_Te_readAll : MethodName := ⟨"SendPolicy$Term", "readAll", "(LSendPolicy$Bytes;II)Z"⟩
abbrev b_Te_readBits : ByteArray := prog_10_method_16_code
def y_Te_readBits : MethodName := ⟨"SendPolicy$Term", "readBits", "(LSendPolicy$Bytes;II)Z"⟩
abbrev b_Te_readFour : ByteArray := prog_10_method_15_code
def y_Te_readFour : MethodName := ⟨"SendPolicy$Term", "readFour", "(LSendPolicy$Bytes;II)Z"⟩
abbrev b_Te_readHost : ByteArray := prog_10_method_13_code
def y_Te_readHost : MethodName := ⟨"SendPolicy$Term", "readHost", "(ILSendPolicy$Bytes;II)Z"⟩
abbrev b_Te_readNetwork : ByteArray := prog_10_method_14_code
def y_Te_readNetwork : MethodName := ⟨"SendPolicy$Term", "readNetwork", "(LSendPolicy$Bytes;II)Z"⟩
abbrev b_Te_readOther : ByteArray := prog_10_method_11_code
def y_Te_readOther : MethodName := ⟨"SendPolicy$Term", "readOther", "(LSendPolicy$Bytes;II)Z"⟩
abbrev b_Te_readTarget : ByteArray := prog_10_method_12_code
def y_Te_readTarget : MethodName := ⟨"SendPolicy$Term", "readTarget", "(ILSendPolicy$Bytes;II)Z"⟩
abbrev b_Te_startsAt : ByteArray := prog_10_method_8_code
def y_Te_startsAt : MethodName := ⟨"SendPolicy$Term", "startsAt", "(LSendPolicy$Bytes;I)Z"⟩
abbrev b_Te_to : ByteArray := prog_10_method_6_code
def y_Te_to : MethodName := ⟨"SendPolicy$Term", "to", "()I"⟩
abbrev b_Te_verdict : ByteArray := prog_10_method_7_code
def y_Te_verdict : MethodName := ⟨"SendPolicy$Term", "verdict", "()I"⟩
abbrev b_Tx_add1 : ByteArray := prog_13_method_2_code
def y_Tx_add1 : MethodName := ⟨"SendPolicyModel$Text", "add", "(I)V"⟩
abbrev b_Tx_add2 : ByteArray := prog_13_method_3_code
def y_Tx_add2 : MethodName := ⟨"SendPolicyModel$Text", "add", "([BII)V"⟩
abbrev b_Tx_init : ByteArray := prog_13_method_1_code
def y_Tx_init : MethodName := ⟨"SendPolicyModel$Text", "<init>", "(I)V"⟩
abbrev b_Tx_is1 : ByteArray := prog_13_method_5_code
def y_Tx_is1 : MethodName := ⟨"SendPolicyModel$Text", "is", "([BII)Z"⟩
abbrev b_Tx_is2 : ByteArray := prog_13_method_6_code
def y_Tx_is2 : MethodName := ⟨"SendPolicyModel$Text", "is", "(LSendPolicyModel$Text;)Z"⟩
abbrev b_Tx_isName : ByteArray := prog_13_method_7_code
def y_Tx_isName : MethodName := ⟨"SendPolicyModel$Text", "isName", "([BII)Z"⟩
abbrev b_Tx_set : ByteArray := prog_13_method_4_code
def y_Tx_set : MethodName := ⟨"SendPolicyModel$Text", "set", "([BII)V"⟩
def nTX : Nat := 9
def lenTX : List Nat := [6, 3, 8, 1, 2, 4, 7, 9, 7]
def bytTX : List (List Int32) := [[118, 61, 115, 112, 102, 49], [97, 108, 108], [105, 110, 99, 108, 117, 100, 101, 58], [97], [109, 120], [105, 112, 52, 58], [101, 120, 105, 115, 116, 115, 58], [114, 101, 100, 105, 114, 101, 99, 116, 61], [118, 61, 115, 112, 102, 49, 32]]
def refTX : List (String × Nat × String × Nat) := [("SendPolicy$Entry", 30, "v=spf1", 0), ("SendPolicy$Term", 77, "all", 1), ("SendPolicy$Term", 48, "include:", 2), ("SendPolicy$Term", 58, "a", 3), ("SendPolicy$Term", 63, "mx", 4), ("SendPolicy$Term", 65, "ip4:", 5), ("SendPolicy$Term", 70, "exists:", 6), ("SendPolicy$Term", 72, "redirect=", 7), ("SendPolicyModel", 204, "v=spf1", 0), ("SendPolicyModel", 206, "v=spf1 ", 8), ("SendPolicyModel", 150, "all", 1), ("SendPolicyModel", 152, "include:", 2), ("SendPolicyModel", 161, "exists:", 6), ("SendPolicyModel", 163, "ip4:", 5), ("SendPolicyModel", 174, "a", 3), ("SendPolicyModel", 180, "mx", 4), ("SendPolicyModel", 182, "redirect=", 7)]
def nestTX : List (String × Nat × MethodName × String) := [("SendPolicy$Level", 22, ⟨"SendPolicy$Term", "<init>", "()V"⟩, "SendPolicy"), ("SendPolicyModel$Text", 35, ⟨"SendPolicyModel", "in", "(JJJ)Z"⟩, "SendPolicyModel"), ("SendPolicyModel$Text", 39, ⟨"SendPolicyModel", "isSmall", "(I)Z"⟩, "SendPolicyModel"), ("SendPolicyModel$Text", 43, ⟨"SendPolicyModel", "isDigit", "(I)Z"⟩, "SendPolicyModel")]
end
section
/-! SPEC: what each method answers, over lists of signed bytes and integers -/
def b2i (b : Bool) : Int := if b = true then 1 else 0
theorem b2i_rng (b : Bool) : 0 ≤ b2i b ∧ b2i b ≤ 1 := by
  unfold b2i
  split <;> omega
theorem b2i_eq0 {b : Bool} : b2i b = 0 ↔ b = false := by cases b <;> simp [b2i]
theorem b2i_ne0 {b : Bool} : ¬ b2i b = 0 ↔ b = true := by cases b <;> simp [b2i]
theorem b2i_t {b : Bool} (h : b = true) : 1 = b2i b := by rw [h]; rfl
theorem b2i_f {b : Bool} (h : b = false) : 0 = b2i b := by rw [h]; rfl
/-- the unsigned byte at a place, -1 outside -/
def atS (xs : List Int) (i : Int) : Int := if 0 ≤ i ∧ i < xs.length then xs.getD i.toNat 0 % 256 else -1
-- signs
abbrev digP (c : Int) : Prop := 48 ≤ c ∧ c ≤ 57
abbrev letP (c : Int) : Prop := 97 ≤ c ∧ c ≤ 122
abbrev nsP (c : Int) : Prop := (97 ≤ c ∧ c ≤ 122) ∨ (48 ≤ c ∧ c ≤ 57) ∨ c = 45 ∨ c = 95
abbrev mlP (c : Int) : Prop := c = 115 ∨ c = 108 ∨ c = 111 ∨ c = 100 ∨ c = 105
abbrev pnP (c : Int) : Prop := 49 ≤ c ∧ c ≤ 57
-- names, locals, words
def nameL (xs : List Int) (to k part : Int) : Bool :=
  if h : k < to then (if atS xs k = 46 ∧ 0 < part then nameL xs to (k + 1) 0 else if nsP (atS xs k) ∧ part < 20 then nameL xs to (k + 1) (part + 1) else false) else decide (0 < part)
termination_by (to - k).toNat
decreasing_by all_goals omega
def nameS (xs : List Int) (fr to : Int) : Bool := if 60 < to - fr then false else nameL xs to fr 0
def locaL (xs : List Int) (to k : Int) : Bool :=
  if h : k < to then (if ¬ nsP (atS xs k) ∧ ¬ atS xs k = 46 ∧ ¬ atS xs k = 43 then false else locaL xs to (k + 1)) else true
termination_by (to - k).toNat
decreasing_by all_goals omega
def locaS (xs : List Int) (fr to : Int) : Bool := if to ≤ fr ∨ 30 < to - fr then false else locaL xs to fr
def wordL (xs : List Int) (to k : Int) : Bool :=
  if h : k < to then (if ¬ nsP (atS xs k) ∧ ¬ atS xs k = 46 then false else wordL xs to (k + 1)) else true
termination_by (to - k).toNat
decreasing_by all_goals omega
def wordS (xs : List Int) (fr to : Int) : Bool := if to ≤ fr ∨ ¬ letP (atS xs fr) then false else wordL xs to fr
-- rows of bytes
def findS (xs : List Int) (c k to : Int) : Int :=
  if h : k < to then (if atS xs k = c then k else findS xs c (k + 1) to) else to
termination_by (to - k).toNat
decreasing_by all_goals omega
theorem findS_rng (xs : List Int) (c k to : Int) : (k ≤ findS xs c k to ∧ findS xs c k to ≤ to) ∨ (to < k ∧ findS xs c k to = to) := by
  have H : ∀ (N : Nat) (k : Int), (to - k).toNat < N → ((k ≤ findS xs c k to ∧ findS xs c k to ≤ to) ∨ (to < k ∧ findS xs c k to = to)) := by
    intro N
    induction N with
    | zero => intro k h; omega
    | succ N ih =>
      intro k h
      rw [findS]
      split
      · split
        · omega
        · have := ih (k + 1) (by omega)
          omega
      · omega
  exact H _ k (Nat.lt_succ_self _)
def hasS (xs w : List Int) (fr to : Int) : Bool := decide ((w.length : Int) ≤ to - fr ∧ ∀ j : Nat, j < w.length → atS xs (fr + j) = w.getD j 0)
-- macros
def mlenS (xs : List Int) (q to : Int) : Int :=
  let nx := if q + 1 < to then atS xs (q + 1) else -1
  if nx = 37 ∨ nx = 95 ∨ nx = 45 then 2 else
  if ¬ nx = 123 ∨ to ≤ q + 2 ∨ ¬ mlP (atS xs (q + 2)) then 0 else
  let k1 := if pnP (atS xs (q + 3)) then q + 3 + 1 else q + 3
  let k2 := if atS xs k1 = 114 then k1 + 1 else k1
  if k2 < to ∧ atS xs k2 = 125 then k2 + 1 - q else 0
theorem mlenS_rng (xs : List Int) (q to : Int) : mlenS xs q to = 0 ∨ (2 ≤ mlenS xs q to ∧ mlenS xs q to ≤ 6 ∧ q + mlenS xs q to ≤ to) := by
  unfold mlenS
  dsimp only
  repeat' split
  all_goals omega
def targL (xs : List Int) (to k : Int) : Bool :=
  if h : k < to then (if atS xs k < 33 ∨ 126 < atS xs k then false else if atS xs k = 37 then (if h2 : mlenS xs k to = 0 then false else targL xs to (k + (mlenS xs k to - 1) + 1)) else targL xs to (k + 1)) else true
termination_by (to - k).toNat
decreasing_by
  · have h9 := mlenS_rng xs k to
    omega
  · omega
def targS (xs : List Int) (fr to : Int) : Bool := targL xs to fr && decide (fr < to)
-- rows that grow: how long the array is, and the bytes
abbrev Bv : Type := Nat × List Int
/-- what the arrays of a row have cost so far, at most -/
def psi (lim : Int) (b : Bv) : Nat := if (b.1 : Int) < lim then 2 * b.1 else 3 * lim.toNat
def addB (lim : Int) (b : Bv) (c : Int) : Bv := if lim ≤ b.2.length then b else (if b.1 ≤ b.2.length then (min lim (2 * (b.2.length : Int) + 1)).toNat else b.1, b.2 ++ [(c + 128) % 256 - 128])
def cntS (lim : Int) (b : Bv) (fr to : Int) : Int := min (to - fr) (lim - b.2.length)
def addPB (lim : Int) (b : Bv) (ys : List Int) (fr to : Int) : Bv := if fr < 0 ∨ to ≤ fr ∨ (ys.length : Int) < to then b else
  (if (b.1 : Int) < b.2.length + cntS lim b fr to then (min lim (2 * (b.2.length + cntS lim b fr to))).toNat else b.1, b.2 ++ (ys.drop fr.toNat).take (cntS lim b fr to).toNat)
def cutB (b : Bv) (n : Int) : Bv := if 0 ≤ n ∧ n < b.2.length then (b.1, b.2.take n.toNat) else b
def add4B (lim : Int) (b : Bv) (w : Int) : Bv := addB lim (addB lim (addB lim (addB lim b (w % 4294967296 / 16777216)) (w % 4294967296 / 65536)) (w % 4294967296 / 256)) w
def addNB (lim : Int) (b : Bv) (v : Int) : Bv :=
  addB lim (if 10 ≤ v then addB lim (if 100 ≤ v then addB lim b (48 + v / 100) else b) (48 + v / 10 % 10) else (if 100 ≤ v then addB lim b (48 + v / 100) else b)) (48 + v % 10)
theorem gD_lt {α : Type} {xs : List α} {j : Nat} {d : α} (h : j < xs.length) : xs.getD j d = xs[j] := by
  rw [List.getD_eq_getElem?_getD, List.getElem?_eq_getElem h]
  rfl
theorem gD_ge {α : Type} {xs : List α} {j : Nat} {d : α} (h : xs.length ≤ j) : xs.getD j d = d := by
  rw [List.getD_eq_getElem?_getD, List.getElem?_eq_none h]
  rfl
theorem addB_full {lim : Int} {b : Bv} {c : Int} (h1 : lim ≤ b.2.length) : addB lim b c = b := if_pos h1
theorem addB_grow {lim : Int} {b : Bv} {c : Int} (h1 : ¬ lim ≤ b.2.length) (h2 : b.1 ≤ b.2.length) : addB lim b c = ((min lim (2 * (b.2.length : Int) + 1)).toNat, b.2 ++ [(c + 128) % 256 - 128]) := by
  unfold addB
  rw [if_neg h1, if_pos h2]
theorem addB_fits {lim : Int} {b : Bv} {c : Int} (h1 : ¬ lim ≤ b.2.length) (h2 : ¬ b.1 ≤ b.2.length) : addB lim b c = (b.1, b.2 ++ [(c + 128) % 256 - 128]) := by
  unfold addB
  rw [if_neg h1, if_neg h2]
theorem psi_le {lim : Int} {b b' : Bv} (h : b.1 ≤ b'.1) (h1 : (b.1 : Int) ≤ lim) : psi lim b ≤ psi lim b' := by
  unfold psi
  split <;> split <;> omega
theorem psi_gr {lim : Int} {b b' : Bv} (h : (b.1 : Int) < b'.1) (h1 : 2 * b.1 ≤ b'.1 ∨ lim ≤ b'.1) (h2 : (b'.1 : Int) ≤ lim) : psi lim b + b'.1 ≤ psi lim b' ∧ psi lim b + 1 ≤ psi lim b' := by
  unfold psi
  split <;> split <;> omega
theorem psi_addB {lim : Int} {b : Bv} (c : Int) (h : b.2.length ≤ b.1 ∧ (b.1 : Int) ≤ lim) : psi lim b ≤ psi lim (addB lim b c) ∧ (addB lim b c).2.length ≤ (addB lim b c).1 ∧ ((addB lim b c).1 : Int) ≤ lim := by
  by_cases h1 : lim ≤ b.2.length
  · rw [addB_full h1]
    exact ⟨Nat.le_refl _, h⟩
  · by_cases h2 : b.1 ≤ b.2.length
    · rw [addB_grow h1 h2]
      refine ⟨psi_le ?_ h.2, ?_, ?_⟩
      · show b.1 ≤ (min lim (2 * (b.2.length : Int) + 1)).toNat
        omega
      · show (b.2 ++ [(c + 128) % 256 - 128]).length ≤ (min lim (2 * (b.2.length : Int) + 1)).toNat
        rw [List.length_append, List.length_singleton]
        omega
      · show (((min lim (2 * (b.2.length : Int) + 1)).toNat : Nat) : Int) ≤ lim
        omega
    · rw [addB_fits h1 h2]
      refine ⟨psi_le (Nat.le_refl _) h.2, ?_, h.2⟩
      show (b.2 ++ [(c + 128) % 256 - 128]).length ≤ b.1
      rw [List.length_append, List.length_singleton]
      omega
theorem grow_add {lim : Int} {b : Bv} (c : Int) (h : b.2.length ≤ b.1 ∧ (b.1 : Int) ≤ lim) (h1 : ¬ lim ≤ b.2.length) (h2 : b.1 ≤ b.2.length) : (min lim (2 * (b.2.length : Int) + 1)).toNat + psi lim b ≤ psi lim (addB lim b c) ∧ 1 + psi lim b ≤ psi lim (addB lim b c) := by
  rw [addB_grow h1 h2]
  have h3 : (b.1 : Int) < ((min lim (2 * (b.2.length : Int) + 1)).toNat : Nat) := by omega
  have h4 := psi_gr (lim := lim) (b := b) (b' := ((min lim (2 * (b.2.length : Int) + 1)).toNat, b.2 ++ [(c + 128) % 256 - 128])) h3 (by show 2 * b.1 ≤ (min lim (2 * (b.2.length : Int) + 1)).toNat ∨ lim ≤ ((min lim (2 * (b.2.length : Int) + 1)).toNat : Nat); omega) (by show (((min lim (2 * (b.2.length : Int) + 1)).toNat : Nat) : Int) ≤ lim; omega)
  dsimp only at h4
  omega
theorem ext_getD {xs ys : List Int} (hl : xs.length = ys.length) (h : ∀ j : Nat, j < xs.length → xs.getD j 0 = ys.getD j 0) : xs = ys := by
  refine List.ext_getElem hl (fun j h1 h2 => ?_)
  have h3 := h j h1
  rw [gD_lt h1, gD_lt h2] at h3
  exact h3
theorem psi_add4 (lim : Int) (b : Bv) (w : Int) (h : b.2.length ≤ b.1 ∧ (b.1 : Int) ≤ lim) : psi lim b ≤ psi lim (add4B lim b w) ∧ (add4B lim b w).2.length ≤ (add4B lim b w).1 ∧ ((add4B lim b w).1 : Int) ≤ lim := by
  have h1 := psi_addB (lim := lim) (b := b) (w % 4294967296 / 16777216) h
  have h2 := psi_addB (w % 4294967296 / 65536) h1.2
  have h3 := psi_addB (w % 4294967296 / 256) h2.2
  have h4 := psi_addB w h3.2
  exact ⟨by unfold add4B; omega, h4.2⟩
theorem addPB_none {lim : Int} {b : Bv} {ys : List Int} {fr to : Int} (h : fr < 0 ∨ to ≤ fr ∨ (ys.length : Int) < to) : addPB lim b ys fr to = b := if_pos h
theorem addPB_grow {lim : Int} {b : Bv} {ys : List Int} {fr to : Int} (h1 : ¬ (fr < 0 ∨ to ≤ fr ∨ (ys.length : Int) < to)) (h2 : (b.1 : Int) < b.2.length + min (to - fr) (lim - b.2.length)) : addPB lim b ys fr to = ((min lim (2 * ((b.2.length : Int) + min (to - fr) (lim - b.2.length)))).toNat, b.2 ++ (ys.drop fr.toNat).take (min (to - fr) (lim - (b.2.length : Int))).toNat) := by
  unfold addPB cntS
  rw [if_neg h1, if_pos h2]
theorem addPB_fits {lim : Int} {b : Bv} {ys : List Int} {fr to : Int} (h1 : ¬ (fr < 0 ∨ to ≤ fr ∨ (ys.length : Int) < to)) (h2 : ¬ (b.1 : Int) < b.2.length + min (to - fr) (lim - b.2.length)) : addPB lim b ys fr to = (b.1, b.2 ++ (ys.drop fr.toNat).take (min (to - fr) (lim - (b.2.length : Int))).toNat) := by
  unfold addPB cntS
  rw [if_neg h1, if_neg h2]
theorem psi_addPB {lim : Int} {b : Bv} (ys : List Int) (fr to : Int) (h : b.2.length ≤ b.1 ∧ (b.1 : Int) ≤ lim) : psi lim b ≤ psi lim (addPB lim b ys fr to) ∧ (addPB lim b ys fr to).2.length ≤ (addPB lim b ys fr to).1 ∧ ((addPB lim b ys fr to).1 : Int) ≤ lim := by
  by_cases h1 : fr < 0 ∨ to ≤ fr ∨ (ys.length : Int) < to
  · rw [addPB_none h1]
    exact ⟨Nat.le_refl _, h⟩
  · have hl : (b.2 ++ (ys.drop fr.toNat).take (min (to - fr) (lim - (b.2.length : Int))).toNat).length = b.2.length + (min (to - fr) (lim - (b.2.length : Int))).toNat := by
      rw [List.length_append, List.length_take, List.length_drop]
      omega
    by_cases h2 : (b.1 : Int) < b.2.length + min (to - fr) (lim - b.2.length)
    · rw [addPB_grow h1 h2]
      refine ⟨psi_le ?_ h.2, ?_, ?_⟩
      · show b.1 ≤ (min lim (2 * ((b.2.length : Int) + min (to - fr) (lim - b.2.length)))).toNat
        omega
      · show (b.2 ++ (ys.drop fr.toNat).take (min (to - fr) (lim - (b.2.length : Int))).toNat).length ≤ (min lim (2 * ((b.2.length : Int) + min (to - fr) (lim - b.2.length)))).toNat
        rw [hl]
        omega
      · show (((min lim (2 * ((b.2.length : Int) + min (to - fr) (lim - b.2.length)))).toNat : Nat) : Int) ≤ lim
        omega
    · rw [addPB_fits h1 h2]
      refine ⟨psi_le (Nat.le_refl _) h.2, ?_, h.2⟩
      show (b.2 ++ (ys.drop fr.toNat).take (min (to - fr) (lim - (b.2.length : Int))).toNat).length ≤ b.1
      rw [hl]
      omega
theorem grow_part {lim : Int} {b : Bv} (ys : List Int) (fr to : Int) (h : b.2.length ≤ b.1 ∧ (b.1 : Int) ≤ lim) (h1 : ¬ (fr < 0 ∨ to ≤ fr ∨ (ys.length : Int) < to)) (h2 : (b.1 : Int) < b.2.length + min (to - fr) (lim - b.2.length)) : (min lim (2 * ((b.2.length : Int) + min (to - fr) (lim - b.2.length)))).toNat + psi lim b ≤ psi lim (addPB lim b ys fr to) ∧ 1 + psi lim b ≤ psi lim (addPB lim b ys fr to) := by
  rw [addPB_grow h1 h2]
  have h4 := psi_gr (lim := lim) (b := b) (b' := ((min lim (2 * ((b.2.length : Int) + min (to - fr) (lim - b.2.length)))).toNat, b.2 ++ (ys.drop fr.toNat).take (min (to - fr) (lim - (b.2.length : Int))).toNat)) (by show (b.1 : Int) < ((min lim (2 * ((b.2.length : Int) + min (to - fr) (lim - b.2.length)))).toNat : Nat); omega) (by show 2 * b.1 ≤ (min lim (2 * ((b.2.length : Int) + min (to - fr) (lim - b.2.length)))).toNat ∨ lim ≤ ((min lim (2 * ((b.2.length : Int) + min (to - fr) (lim - b.2.length)))).toNat : Nat); omega) (by show (((min lim (2 * ((b.2.length : Int) + min (to - fr) (lim - b.2.length)))).toNat : Nat) : Int) ≤ lim; omega)
  dsimp only at h4
  omega
theorem psi_addNB (lim : Int) (b : Bv) (v : Int) (h : b.2.length ≤ b.1 ∧ (b.1 : Int) ≤ lim) : psi lim b ≤ psi lim (addNB lim b v) ∧ (addNB lim b v).2.length ≤ (addNB lim b v).1 ∧ ((addNB lim b v).1 : Int) ≤ lim := by
  have h1 : ∀ (x : Bv) (c : Int), (psi lim b ≤ psi lim x ∧ x.2.length ≤ x.1 ∧ (x.1 : Int) ≤ lim) → psi lim b ≤ psi lim (addB lim x c) ∧ (addB lim x c).2.length ≤ (addB lim x c).1 ∧ ((addB lim x c).1 : Int) ≤ lim := fun x c hx => by
    have := psi_addB (lim := lim) (b := x) c hx.2
    exact ⟨by omega, this.2⟩
  have h0 : psi lim b ≤ psi lim b ∧ b.2.length ≤ b.1 ∧ (b.1 : Int) ≤ lim := ⟨Nat.le_refl _, h⟩
  unfold addNB
  apply h1
  split
  · apply h1
    split
    · exact h1 _ _ h0
    · exact h0
  · split
    · exact h1 _ _ h0
    · exact h0
end
section
/-! BASE: my own layer over the kit's rows. A world is a map M from addresses to (tag, cell); a judgement G says that the machine, at a pc of a method, with the locals lv and the stack st, comes to the method's end. -/
/-! ===== numbers: an Int32 by its integer ===== -/
def zI (i : Int) : Int32 := Int32.ofInt i
abbrev vI (i : Int) : Value := Value.int (zI i)
theorem zI_add (a b : Int) : zI a + zI b = zI (a + b) := (Int32.ofInt_add a b).symm
theorem zI_sub (a b : Int) : zI a - zI b = zI (a - b) := (Int32.ofInt_sub a b).symm
theorem zI_mul (a b : Int) : zI a * zI b = zI (a * b) := (Int32.ofInt_mul a b).symm
theorem zI_toInt {a : Int} (h : -2147483648 ≤ a ∧ a ≤ 2147483647) : (zI a).toInt = a := Int32.toInt_ofInt_of_le (by omega) (by omega)
theorem zI_self (x : Int32) : zI x.toInt = x := Int32.ofInt_toInt x
theorem zI_rng (x : Int32) : -2147483648 ≤ x.toInt ∧ x.toInt ≤ 2147483647 := by
  have h1 := x.le_toInt
  have h2 := x.toInt_lt
  omega
theorem zI_eq {a b : Int} (ha : -2147483648 ≤ a ∧ a ≤ 2147483647) (hb : -2147483648 ≤ b ∧ b ≤ 2147483647) : zI a = zI b ↔ a = b := by
  rw [← Int32.toInt_inj, zI_toInt ha, zI_toInt hb]
theorem zI_lt {a b : Int} (ha : -2147483648 ≤ a ∧ a ≤ 2147483647) (hb : -2147483648 ≤ b ∧ b ≤ 2147483647) : zI a < zI b ↔ a < b := by
  rw [Int32.lt_iff_toInt_lt, zI_toInt ha, zI_toInt hb]
theorem zI_le {a b : Int} (ha : -2147483648 ≤ a ∧ a ≤ 2147483647) (hb : -2147483648 ≤ b ∧ b ≤ 2147483647) : zI a ≤ zI b ↔ a ≤ b := by
  rw [Int32.le_iff_toInt_le, zI_toInt ha, zI_toInt hb]
theorem zI_0 : (0 : Int32) = zI 0 := by decide +kernel
theorem zI_nat (n : Nat) : zI (n : Int) = Int32.ofNat n := Int32.ofInt_eq_ofNat
theorem zI_clamp {a : Int} (h : 0 ≤ a ∧ a ≤ 2147483647) : (zI a).toNatClampNeg = a.toNat := Int32.toNatClampNeg_ofInt_of_le (by omega) (by omega)
theorem zI_in {a : Int} {n : Nat} (h : 0 ≤ a ∧ a < n) (hn : a ≤ 2147483647) : vp_in (zI a) n := by
  rw [vp_in_iff, zI_toInt ⟨by omega, hn⟩]
  exact h
theorem zI_div {a b : Int} (ha : 0 ≤ a ∧ a ≤ 2147483647) (hb : 0 < b ∧ b ≤ 2147483647) : zI a / zI b = zI (a / b) := by
  obtain ⟨n, rfl⟩ := Int.eq_ofNat_of_zero_le ha.1
  obtain ⟨d, rfl⟩ := Int.eq_ofNat_of_zero_le (Int.le_of_lt hb.1)
  have e := pk_div (a := n) (d := d) (by omega) (by omega) (by omega)
  unfold nI at e
  rw [zI_nat, zI_nat, e, ← zI_nat]
  rfl
theorem zI_ne0 {b : Int} (hb : 0 < b ∧ b ≤ 2147483647) : ¬ zI b = 0 := by
  rw [zI_0, zI_eq (by omega) (by omega)]
  omega
theorem zI_rem {a b : Int} (ha : 0 ≤ a ∧ a ≤ 2147483647) (hb : 0 < b ∧ b ≤ 2147483647) : zI a - zI a / zI b * zI b = zI (a % b) := by
  rw [zI_div ha hb, zI_mul, zI_sub, Int.emod_def, Int.mul_comm]
/-! bits as integers -/
theorem zI_and255 (x : Int32) : x &&& 255 = zI (x.toInt % 256) := by
  apply Int32.toBitVec_inj.mp
  apply BitVec.eq_of_toNat_eq
  rw [Int32.toBitVec_and]
  have h1 : (255 : Int32).toBitVec = 255#32 := rfl
  rw [h1, BitVec.toNat_and]
  have h2 : (255#32).toNat = 2 ^ 8 - 1 := rfl
  rw [h2, Nat.and_two_pow_sub_one_eq_mod]
  have h3 : (zI (x.toInt % 256)).toBitVec = BitVec.ofInt 32 (x.toInt % 256) := rfl
  rw [h3, BitVec.toNat_ofInt]
  have h4 : x.toInt = x.toBitVec.toInt := rfl
  rw [h4, BitVec.toInt_eq_toNat_cond]
  have h5 := x.toBitVec.isLt
  split <;> omega
theorem zI_and255' {a : Int} (h : -2147483648 ≤ a ∧ a ≤ 2147483647) : zI a &&& zI 255 = zI (a % 256) := by
  have e := zI_and255 (zI a)
  rw [zI_toInt h] at e
  exact e
/-- the signed byte of an integer -/
def sgb (a : Int) : Int := (a + 128) % 256 - 128
theorem sgb_rng (a : Int) : -128 ≤ sgb a ∧ sgb a ≤ 127 := by
  unfold sgb
  omega
theorem zI_i2b {a : Int} (h : -2147483648 ≤ a ∧ a ≤ 2147483647) : (zI a).toInt8.toInt32 = zI (sgb a) := by
  apply Int32.toInt_inj.mp
  have h1 := sgb_rng a
  rw [zI_toInt (by omega), Int8.toInt_toInt32, Int32.toInt_toInt8, zI_toInt h, Int.bmod_def]
  unfold sgb
  split <;> omega
theorem zI_ushr24 (a : Int) : ((zI a).toUInt32 >>> ((zI 24).toUInt32 &&& Int32.toUInt32 31)).toInt32 = zI (a % 4294967296 / 16777216) := by
  have h0 : (zI 24).toUInt32 &&& Int32.toUInt32 31 = (24 : UInt32) := by decide +kernel
  rw [h0]
  apply Int32.toBitVec_inj.mp
  apply BitVec.eq_of_toNat_eq
  have h1 : ((zI a).toUInt32 >>> (24 : UInt32)).toInt32.toBitVec.toNat = ((zI a).toUInt32 >>> (24 : UInt32)).toNat := rfl
  rw [h1, UInt32.toNat_shiftRight]
  have h2 : (zI a).toUInt32.toNat = (BitVec.ofInt 32 a).toNat := rfl
  have h3 : (zI (a % 4294967296 / 16777216)).toBitVec = BitVec.ofInt 32 (a % 4294967296 / 16777216) := rfl
  have h4 : (24 : UInt32).toNat % 32 = 24 := by decide +kernel
  rw [h2, h3, BitVec.toNat_ofInt, BitVec.toNat_ofInt, h4, Nat.shiftRight_eq_div_pow]
  omega
theorem zI_ushr16 (a : Int) : ((zI a).toUInt32 >>> ((zI 16).toUInt32 &&& Int32.toUInt32 31)).toInt32 = zI (a % 4294967296 / 65536) := by
  have h0 : (zI 16).toUInt32 &&& Int32.toUInt32 31 = (16 : UInt32) := by decide +kernel
  rw [h0]
  apply Int32.toBitVec_inj.mp
  apply BitVec.eq_of_toNat_eq
  have h1 : ((zI a).toUInt32 >>> (16 : UInt32)).toInt32.toBitVec.toNat = ((zI a).toUInt32 >>> (16 : UInt32)).toNat := rfl
  rw [h1, UInt32.toNat_shiftRight]
  have h2 : (zI a).toUInt32.toNat = (BitVec.ofInt 32 a).toNat := rfl
  have h3 : (zI (a % 4294967296 / 65536)).toBitVec = BitVec.ofInt 32 (a % 4294967296 / 65536) := rfl
  have h4 : (16 : UInt32).toNat % 32 = 16 := by decide +kernel
  rw [h2, h3, BitVec.toNat_ofInt, BitVec.toNat_ofInt, h4, Nat.shiftRight_eq_div_pow]
  omega
theorem zI_ushr8 (a : Int) : ((zI a).toUInt32 >>> ((zI 8).toUInt32 &&& Int32.toUInt32 31)).toInt32 = zI (a % 4294967296 / 256) := by
  have h0 : (zI 8).toUInt32 &&& Int32.toUInt32 31 = (8 : UInt32) := by decide +kernel
  rw [h0]
  apply Int32.toBitVec_inj.mp
  apply BitVec.eq_of_toNat_eq
  have h1 : ((zI a).toUInt32 >>> (8 : UInt32)).toInt32.toBitVec.toNat = ((zI a).toUInt32 >>> (8 : UInt32)).toNat := rfl
  rw [h1, UInt32.toNat_shiftRight]
  have h2 : (zI a).toUInt32.toNat = (BitVec.ofInt 32 a).toNat := rfl
  have h3 : (zI (a % 4294967296 / 256)).toBitVec = BitVec.ofInt 32 (a % 4294967296 / 256) := rfl
  have h4 : (8 : UInt32).toNat % 32 = 8 := by decide +kernel
  rw [h2, h3, BitVec.toNat_ofInt, BitVec.toNat_ofInt, h4, Nat.shiftRight_eq_div_pow]
  omega
/-! ===== worlds ===== -/
abbrev Cel : Type := Nat × va_E
abbrev Mp : Type := Nat → Option Cel
def mset (M : Mp) (a : Nat) (c : Cel) : Mp := fun q => if q = a then some c else M q
theorem mset_self (M : Mp) (a : Nat) (c : Cel) : mset M a c a = some c := if_pos rfl
theorem mset_ne {M : Mp} {a q : Nat} {c : Cel} (h : q ≠ a) : mset M a c q = M q := if_neg h
theorem mset_mset (M : Mp) (a : Nat) (c d : Cel) : mset (mset M a c) a d = mset M a d := by
  funext q
  by_cases h : q = a <;> simp [mset, h]
theorem ne_cel {M : Mp} {a b : Nat} {c d : Cel} (ha : M a = some c) (hb : M b = some d) (h : c ≠ d) : a ≠ b := fun e => h (by subst e; exact Option.some.inj (ha.symm.trans hb))
theorem mset_at {M : Mp} {a q : Nat} {c d : Cel} (hq : M q = some d) (h : q ≠ a) : mset M a c q = some d := (mset_ne h).trans hq
/-- known classes' numbers and slots; the classes of arrays; where the text constants and their bytes stand -/
abbrev Dg : Type := va_G × (Nat → ClassId) × (Nat → Nat) × (Nat → Nat)
def Rep (D : Dg) (b0 : Nat) (M : Mp) (H : Heap) : Prop := ∃ ws : va_W, va_P D.1 vwCl ws H ∧ va_D (fun q => b0 ≤ q) ws ∧ ∀ (a : Nat) (c : Cel), M a = some c → ∃ k : Nat, ws[k]? = some (a, c.2)
theorem Rep_set {D : Dg} {b0 : Nat} {M : Mp} {H1 : Heap} {ws : va_W} {q0 a : Nat} {e0 e1 : va_E} (t : Nat) (hq : ws[q0]? = some (a, e0)) (hM : ∀ (a : Nat) (c : Cel), M a = some c → ∃ k : Nat, ws[k]? = some (a, c.2))
    (hP1 : va_P D.1 vwCl (ws.set q0 (a, e1)) H1) (hD1 : va_D (fun q => b0 ≤ q) (ws.set q0 (a, e1))) : Rep D b0 (mset M a (t, e1)) H1 := by
  refine ⟨_, hP1, hD1, fun q c hc => ?_⟩
  by_cases h : q = a
  · subst h
    rw [mset_self] at hc
    cases hc
    have hlt : q0 < ws.length := (List.getElem?_eq_some_iff.mp hq).1
    exact ⟨q0, by rw [List.getElem?_set_self hlt]⟩
  · rw [mset_ne h] at hc
    obtain ⟨k, hk⟩ := hM q c hc
    have hne : q0 ≠ k := fun z => by
      subst z
      rw [hq] at hk
      exact h (congrArg Prod.fst (Option.some.inj hk)).symm
    exact ⟨k, by rw [List.getElem?_set_ne hne]; exact hk⟩
theorem Rep_push {D : Dg} {b0 : Nat} {M : Mp} {H1 : Heap} {ws : va_W} {a : Nat} {e1 : va_E} (hM : ∀ (a : Nat) (c : Cel), M a = some c → ∃ k : Nat, ws[k]? = some (a, c.2))
    (hP1 : va_P D.1 vwCl (ws ++ [(a, e1)]) H1) (hD1 : va_D (fun q => b0 ≤ q) (ws ++ [(a, e1)])) : M a = none ∧ ∀ t : Nat, Rep D b0 (mset M a (t, e1)) H1 := by
  have hlast : (ws ++ [(a, e1)])[ws.length]? = some (a, e1) := by simp
  have hold : ∀ (k : Nat) (x : Nat × va_E), ws[k]? = some x → (ws ++ [(a, e1)])[k]? = some x := fun k x hk => by
    rw [List.getElem?_append_left (List.getElem?_eq_some_iff.mp hk).1]; exact hk
  have hnew : ∀ (k : Nat) (e : va_E), ws[k]? = some (a, e) → False := fun k e hk => by
    have h1 := hD1.1 k ws.length (a, e) (a, e1) (hold k _ hk) hlast rfl
    have h2 := (List.getElem?_eq_some_iff.mp hk).1
    omega
  refine ⟨?_, fun t => ⟨_, hP1, hD1, fun q c hc => ?_⟩⟩
  · cases hm : M a with
    | none => rfl
    | some c =>
      obtain ⟨k, hk⟩ := hM a c hm
      exact (hnew k c.2 hk).elim
  · by_cases h : q = a
    · subst h
      rw [mset_self] at hc
      cases hc
      exact ⟨_, hlast⟩
    · rw [mset_ne h] at hc
      obtain ⟨k, hk⟩ := hM q c hc
      exact ⟨k, hold k _ hk⟩
/-- cells that are kept may be forgotten, and tags changed -/
theorem Rep_weak {D : Dg} {b0 : Nat} {M M' : Mp} {H : Heap} (h : Rep D b0 M H) (hw : ∀ (a : Nat) (c : Cel), M' a = some c → ∃ t : Nat, M a = some (t, c.2)) : Rep D b0 M' H := by
  obtain ⟨ws, h1, h2, h3⟩ := h
  refine ⟨ws, h1, h2, fun a c hc => ?_⟩
  obtain ⟨t, ht⟩ := hw a c hc
  exact h3 a (t, c.2) ht
/-! ===== the context of a walk, and the judgement G ===== -/
/-- the words of the tables that a callee may be given, for every method the same -/
def TB : List Cond := lw_tbl.filter goodWord
theorem TB_good : GoodIn TB TB := fun w hw => ⟨hw, good_of_word (List.mem_filter.mp hw).2⟩
theorem tb_in {w : Cond} (i : Nat) (h : lw_tbl[i]? = some w) (hg : goodWord w = true) : w ∈ TB := List.mem_filter.mpr ⟨List.mem_of_getElem? h, hg⟩
def TYS (D : Dg) : List (ClassId × FieldType) := [(D.2.1 0, .byte), (D.2.1 1, .int), (D.2.1 2, .object "SendPolicy$Entry"), (D.2.1 3, .object "SendPolicy$Level"), (D.2.1 4, .object "SendPolicyModel$Text")]
/-- what is known of the tables and of the text constants, at any state of a run -/
def Kn (D : Dg) (b0 : Nat) (U : State) : Prop := va_K D.1 vwCl (TYS D) U ∧ (∀ C ∈ ["SendPolicy$Entry", "SendPolicy$Level", "SendPolicyModel$Text"], va_AO C U) ∧ vk_S nTX lenTX bytTX D.2.2.1 D.2.2.2 (fun q => b0 ≤ q) U U.heap ∧ (∀ q ∈ refTX, vk_R q.1 q.2.1 q.2.2.1 (D.2.2.1 q.2.2.2) U) ∧ (∀ q ∈ nestTX, va_Nw (.methodLinkNest q.1 q.2.1 q.2.2.1 q.2.2.2) U) ∧ va_Z "java/lang/String" "COMPACT_STRINGS" "Z" (.int 1) (fun q => b0 ≤ q) U U.heap ∧ ∃ v : Value, (v = .null ∨ ∃ a, v = .ref a) ∧ va_Z "jdk/internal/util/Preconditions" "SIOOBE_FORMATTER" "Ljava/util/function/BiFunction;" v (fun q => b0 ≤ q) U U.heap
theorem Kn_moved {D : Dg} {b0 : Nat} {s U : State} {locs : List Loc} (h : Kn D b0 s) (hW : s.WarmedH U.vm) (hS : va_S (fun q => b0 ≤ q) s.heap U.heap locs) : Kn D b0 U :=
  ⟨va_K.moved hW.alike h.1, fun C hC => (h.2.1 C hC).moved hW.alike, (h.2.2.1.moved hW.alike).kept hS.2.1, fun q hq => (h.2.2.2.1 q hq).warm hW, fun q hq => (h.2.2.2.2.1 q hq).warmM hW, (h.2.2.2.2.2.1.moved hW.alike).kept hS.2.1, by
    obtain ⟨v, h1, h2⟩ := h.2.2.2.2.2.2
    exact ⟨v, h1, (h2.moved hW.alike).kept hS.2.1⟩⟩
theorem Kn_same {D : Dg} {b0 : Nat} {u U : State} (hv : U.vm = u.vm) (hh : U.heap = u.heap) (h : Kn D b0 u) : Kn D b0 U := by
  have ha : u.vm.Alike U.vm := by rw [hv]; exact Vm.Alike.refl u.vm
  obtain ⟨h1, h2, h3, h4, h5, h6, v, h7, h8⟩ := h
  refine ⟨va_K.moved ha h1, fun C hC => (h2 C hC).moved ha, ?_, fun q hq => (h4 q hq).same hv, fun q hq => va_Nw.same rfl hv.symm (h5 q hq), ?_, v, h7, ?_⟩
  · rw [hh]
    exact h3.moved ha
  · rw [hh]
    exact h6.moved ha
  · rw [hh]
    exact h8.moved ha
abbrev Cxt : Type := Program × Launch × Env × Room × State × MethodId × Array Value × List Frame × Method × Code × Dg × Nat × Nat × (State → Prop)
abbrev eN (E : Cxt) : Nat := E.2.2.2.2.2.2.2.2.2.2.2.2.1
abbrev eD (E : Cxt) : Dg := E.2.2.2.2.2.2.2.2.2.2.1
abbrev eB (E : Cxt) : Nat := E.2.2.2.2.2.2.2.2.2.2.2.1
abbrev eL (E : Cxt) : Launch := E.2.1
abbrev eR (E : Cxt) : Room := E.2.2.2.1
def Cx (E : Cxt) (cc : ByteArray) (y : MethodName) : Prop := match E with
  | (p, _, _, _, s, m, args, _, meth, c, D, b0, nL, _) => p.tables.exec = Jvm.exec ∧ c.code = cc ∧ c.maxLocals = nL ∧ s.vm.findClass y.cls = some m.cls ∧ (∀ w ∈ TB, w.before args s = true) ∧ Kn D b0 s ∧ b0 ≤ s.heap.size ∧ meth.locks = false ∧ meth.name = y.name
def G (E : Cxt) (M : Mp) (k n : Nat) (lv : List (Nat × Value)) (st : List Value) (pc : Nat) : Prop := match E with
  | (p, l, e, R, s, m, args, below, meth, c, D, b0, nL, Q) => ∀ (H : Heap) (locs : List Loc) (ls : Array Slot), Rep D b0 M H → va_S (fun q => b0 ≤ q) s.heap H locs → lv_has ls nL lv → W p l e R s m args below meth c H locs k n Q (F0 m pc ls st)
/-! ===== a method's contract ===== -/
def Pc_of (D : Dg) (b0 : Nat) (M : Mp) (av : List Value) : Array Value → State → Prop := fun v U => v = av.toArray ∧ b0 ≤ U.heap.size ∧ Rep D b0 M U.heap ∧ Kn D b0 U
def Qc_of (D : Dg) (b0 : Nat) (Post : Option Value → Mp → Prop) : Array Value → State → Outcome → State → Prop := fun _ st oc t => (∃ (r : Option Value) (M' : Mp), oc = .returned r ∧ Post r M' ∧ Rep D b0 M' t.heap) ∧ va_F (fun q => b0 ≤ q) st t
/-- the room at depth d: d frames are left, forty words of locals each -/
def rmD (d mc ms : Nat) : Room := { frames := d, cells := mc, slots := ms, locals := 40 * d }
def Ok (l : Launch) (D : Dg) (b0 d : Nat) (y : MethodName) (cc : ByteArray) (nL : Nat) (ret : Option FieldType) (M : Mp) (av : List Value) (mc ms : Nat) (Post : Option Value → Mp → Prop) : Prop :=
  Met l y (Cond.code y cc nL ret :: TB) (rmD d mc ms) (Pc_of D b0 M av) (Qc_of D b0 Post) mc ms (fun q => b0 ≤ q)
/-- the end of a walk under a contract -/
def eQ (D : Dg) (b0 : Nat) (Post : Option Value → Mp → Prop) (below : List Frame) (args : Array Value) (s : State) (mc ms : Nat) : State → Prop := MQ below (Qc_of D b0 Post) args s mc ms (fun q => b0 ≤ q)
/-- E walks the method under the contract Post, with the return type ret -/
def Cr (E : Cxt) (ret : Option FieldType) (mc ms : Nat) (Post : Option Value → Mp → Prop) : Prop := match E with
  | (_, _, _, _, s, _, args, below, meth, _, D, b0, _, Q) => meth.sig.returnType = ret ∧ Q = eQ D b0 Post below args s mc ms
theorem Ok_of {l : Launch} {D : Dg} {b0 d : Nat} {y : MethodName} {cc : ByteArray} {nL : Nat} {ret : Option FieldType} {M : Mp} {av : List Value} {mc ms : Nat} {Post : Option Value → Mp → Prop}
    (hy : plainName y.cls = true) (hav : (lg_sl av).length ≤ nL)
    (body : ∀ E : Cxt, Cx E cc y → Cr E ret mc ms Post → eL E = l → eD E = D → eB E = b0 → eN E = nL → eR E = rmD d mc ms → G E M 0 0 (lv_args 0 av) [] 0) : Ok l D b0 d y cc nL ret M av mc ms Post := by
  refine Met.ofW (cc := cc) (maxL := nL) (ret := ret) hy rfl ?_
  intro p e s m args below meth c s₁ B hml hv
  obtain ⟨rfl, hb0, hRep, hKn⟩ := hv
  have hts := atoms_spec (ws := Cond.code y cc nL ret :: TB) B.pre
  have h := body (p, l, e, rmD d mc ms, s, m, av.toArray, below, meth, c, D, b0, nL, eQ D b0 Post below av.toArray s mc ms)
    ⟨B.exec, B.bytes, hml, findClass_of_methodNamed B.named, fun w hw => hts w (List.mem_cons_of_mem _ hw), hKn, hb0, B.notSynchronized, (name_of_methodNamed B.named B.method).1⟩
    ⟨B.returns, rfl⟩ rfl rfl rfl rfl rfl
  rw [lg_entry_eq]
  exact h s.heap [] _ hRep va_S.rf (lv_entry av hav)
/-! ===== ends ===== -/
theorem G_ireturn {E : Cxt} {cc : ByteArray} {y : MethodName} {M : Mp} {k n pc mc ms : Nat} {lv : List (Nat × Value)} {x : Int32} {Post : Option Value → Mp → Prop} (hC : Cx E cc y) (hQ : Cr E (some .int) mc ms Post) (hk : k ≤ mc) (hn : n ≤ ms) (d : decode cc pc = .ok (.ireturn, 1)) (hp : Post (some (.int x)) M) : G E M k n lv [.int x] pc := by
  obtain ⟨p, l, e, R, s, m, args, below, meth, c, D, b0, nL, Q⟩ := E
  obtain ⟨hx, hb, hml, hown, hts, hKn, hb0, hlk, hmn⟩ := hC
  obtain ⟨hr, rfl⟩ := hQ
  intro H locs ls hR hS hl
  refine W.widen hk hn ?_
  exact W.iret hx hb hr (fun t ht _ => ⟨⟨_, M, rfl, hp, by rw [ht]; exact hR⟩, hS.F ht⟩) hS.2.2 d hlk
theorem G_zreturn {E : Cxt} {cc : ByteArray} {y : MethodName} {M : Mp} {k n pc mc ms : Nat} {lv : List (Nat × Value)} {x : Int32} {ty : FieldType} {Post : Option Value → Mp → Prop} (hC : Cx E cc y) (hQ : Cr E (some ty) mc ms Post) (hk : k ≤ mc) (hn : n ≤ ms) (hx9 : narrow ty (.int x) = .int x) (d : decode cc pc = .ok (.ireturn, 1)) (hp : Post (some (.int x)) M) : G E M k n lv [.int x] pc := by
  obtain ⟨p, l, e, R, s, m, args, below, meth, c, D, b0, nL, Q⟩ := E
  obtain ⟨hx, hb, hml, hown, hts, hKn, hb0, hlk, hmn⟩ := hC
  obtain ⟨hr, rfl⟩ := hQ
  intro H locs ls hR hS hl
  refine W.widen hk hn ?_
  exact W.zret hx hb hr hx9 (fun t ht _ => ⟨⟨_, M, rfl, hp, by rw [ht]; exact hR⟩, hS.F ht⟩) hS.2.2 d hlk
theorem G_return {E : Cxt} {cc : ByteArray} {y : MethodName} {M : Mp} {k n pc mc ms : Nat} {lv : List (Nat × Value)} {Post : Option Value → Mp → Prop} (hC : Cx E cc y) (hQ : Cr E none mc ms Post) (hk : k ≤ mc) (hn : n ≤ ms) (d : decode cc pc = .ok (.return_, 1)) (hp : Post none M) : G E M k n lv [] pc := by
  obtain ⟨p, l, e, R, s, m, args, below, meth, c, D, b0, nL, Q⟩ := E
  obtain ⟨hx, hb, hml, hown, hts, hKn, hb0, hlk, hmn⟩ := hC
  obtain ⟨hr, rfl⟩ := hQ
  intro H locs ls hR hS hl
  refine W.widen hk hn ?_
  exact W.vret hx hb hr (fun t ht _ => ⟨⟨_, M, rfl, hp, by rw [ht]; exact hR⟩, hS.F ht⟩) hS.2.2 d hlk
theorem G_areturn {E : Cxt} {cc : ByteArray} {y : MethodName} {M : Mp} {k n pc mc ms : Nat} {lv : List (Nat × Value)} {v : Value} {rt : FieldType} {Post : Option Value → Mp → Prop} (hC : Cx E cc y) (hQ : Cr E (some rt) mc ms Post) (hrt : (∃ n, rt = .object n) ∨ ∃ t, rt = .array t) (hv : v = .null ∨ ∃ a, v = .ref a) (hk : k ≤ mc) (hn : n ≤ ms) (d : decode cc pc = .ok (.areturn, 1)) (hp : Post (some v) M) : G E M k n lv [v] pc := by
  obtain ⟨p, l, e, R, s, m, args, below, meth, c, D, b0, nL, Q⟩ := E
  obtain ⟨hx, hb, hml, hown, hts, hKn, hb0, hlk, hmn⟩ := hC
  obtain ⟨hr, rfl⟩ := hQ
  intro H locs ls hR hS hl
  refine W.widen hk hn ?_
  exact W.aret hx hb hr hrt hv (fun t ht _ => ⟨⟨_, M, rfl, hp, by rw [ht]; exact hR⟩, hS.F ht⟩) hS.2.2 d hlk
/-- less may be asked: cells and slots rounded up, a world forgotten in part -/
theorem G_weak {E : Cxt} {M M' : Mp} {k n pc : Nat} {lv : List (Nat × Value)} {st : List Value} (hw : ∀ (a : Nat) (c : Cel), M' a = some c → ∃ t : Nat, M a = some (t, c.2)) (kk : G E M' k n lv st pc) : G E M k n lv st pc := by
  obtain ⟨p, l, e, R, s, m, args, below, meth, c, D, b0, nL, Q⟩ := E
  intro H locs ls hR hS hl
  exact kk H locs ls (Rep_weak hR hw) hS hl
theorem G_widen {E : Cxt} {M : Mp} {k n k' n' pc : Nat} {lv : List (Nat × Value)} {st : List Value} (hk : k ≤ k') (hn : n ≤ n') (kk : G E M k' n' lv st pc) : G E M k n lv st pc := by
  obtain ⟨p, l, e, R, s, m, args, below, meth, c, D, b0, nL, Q⟩ := E
  intro H locs ls hR hS hl
  exact W.widen hk hn (kk H locs ls hR hS hl)
/-- the locals in another order, or fewer -/
theorem G_lv {E : Cxt} {M : Mp} {k n pc : Nat} {lv lv' : List (Nat × Value)} {st : List Value} (is : List Nat) (h : lv_pick lv is = lv') (kk : G E M k n lv' st pc) : G E M k n lv st pc := by
  obtain ⟨p, l, e, R, s, m, args, below, meth, c, D, b0, nL, Q⟩ := E
  intro H locs ls hR hS hl
  exact kk H locs ls hR hS (lv_sub hl is h)
end
section
/-! ROWS: printed by wip/fw/mkrows.py -/
theorem G_iconst {E : Cxt} {cc : ByteArray} {y : MethodName} {M : Mp} {k n pc : Nat} {lv : List (Nat × Value)} {st : List Value} {i : Int} (hC : Cx E cc y) (d : decode cc pc = .ok (.iconst i, 1)) (kk : G E M k n lv (vI i :: st) (pc + 1)) : G E M k n lv (st) pc := by
  obtain ⟨p, l, e, R, s, m, args, below, meth, c, D, b0, nL, Q⟩ := E
  obtain ⟨hx, hb, hml, hown, hts, hKn, hb0, hlk, hmn⟩ := hC
  intro H locs ls hR hS hl
  exact lv_iconst hx hb d rfl (kk H locs ls hR hS hl)
theorem G_bipush {E : Cxt} {cc : ByteArray} {y : MethodName} {M : Mp} {k n pc : Nat} {lv : List (Nat × Value)} {st : List Value} {i j : Int} (hC : Cx E cc y) (hv : (Int8.ofInt i).toInt32 = zI j) (d : decode cc pc = .ok (.bipush i, 2)) (kk : G E M k n lv (vI j :: st) (pc + 2)) : G E M k n lv (st) pc := by
  obtain ⟨p, l, e, R, s, m, args, below, meth, c, D, b0, nL, Q⟩ := E
  obtain ⟨hx, hb, hml, hown, hts, hKn, hb0, hlk, hmn⟩ := hC
  intro H locs ls hR hS hl
  exact lv_bipush hx hb d hv (kk H locs ls hR hS hl)
theorem G_sipush {E : Cxt} {cc : ByteArray} {y : MethodName} {M : Mp} {k n pc : Nat} {lv : List (Nat × Value)} {st : List Value} {i j : Int} (hC : Cx E cc y) (hv : (Int16.ofInt i).toInt32 = zI j) (d : decode cc pc = .ok (.sipush i, 3)) (kk : G E M k n lv (vI j :: st) (pc + 3)) : G E M k n lv (st) pc := by
  obtain ⟨p, l, e, R, s, m, args, below, meth, c, D, b0, nL, Q⟩ := E
  obtain ⟨hx, hb, hml, hown, hts, hKn, hb0, hlk, hmn⟩ := hC
  intro H locs ls hR hS hl
  exact lv_sipush hx hb d hv (kk H locs ls hR hS hl)
theorem G_lconst {E : Cxt} {cc : ByteArray} {y : MethodName} {M : Mp} {k n pc : Nat} {lv : List (Nat × Value)} {st : List Value} {i : Fin 2} {v : Int64} (hC : Cx E cc y) (hv : Int64.ofNat (i : Nat) = v) (d : decode cc pc = .ok (.lconst i, 1)) (kk : G E M k n lv (.long v :: st) (pc + 1)) : G E M k n lv (st) pc := by
  obtain ⟨p, l, e, R, s, m, args, below, meth, c, D, b0, nL, Q⟩ := E
  obtain ⟨hx, hb, hml, hown, hts, hKn, hb0, hlk, hmn⟩ := hC
  intro H locs ls hR hS hl
  exact lv_lconst hx hb d hv (kk H locs ls hR hS hl)
theorem G_null {E : Cxt} {cc : ByteArray} {y : MethodName} {M : Mp} {k n pc : Nat} {lv : List (Nat × Value)} {st : List Value} (hC : Cx E cc y) (d : decode cc pc = .ok (.aconst_null, 1)) (kk : G E M k n lv (.null :: st) (pc + 1)) : G E M k n lv (st) pc := by
  obtain ⟨p, l, e, R, s, m, args, below, meth, c, D, b0, nL, Q⟩ := E
  obtain ⟨hx, hb, hml, hown, hts, hKn, hb0, hlk, hmn⟩ := hC
  intro H locs ls hR hS hl
  exact lv_null hx hb d (kk H locs ls hR hS hl)
theorem G_iload_n {E : Cxt} {cc : ByteArray} {y : MethodName} {M : Mp} {k n pc : Nat} {lv : List (Nat × Value)} {st : List Value} {f : Fin 4} {i : Nat} {x : Int32} (hC : Cx E cc y) (j : Nat) (h : lv[j]? = some (i, .int x)) (hi : (f : Nat) = i) (d : decode cc pc = .ok (.iload_n f, 1)) (kk : G E M k n lv (.int x :: st) (pc + 1)) : G E M k n lv (st) pc := by
  obtain ⟨p, l, e, R, s, m, args, below, meth, c, D, b0, nL, Q⟩ := E
  obtain ⟨hx, hb, hml, hown, hts, hKn, hb0, hlk, hmn⟩ := hC
  intro H locs ls hR hS hl
  exact lv_iload_n hx hb d hi (lv_at hl j h) (kk H locs ls hR hS hl)
theorem G_iload {E : Cxt} {cc : ByteArray} {y : MethodName} {M : Mp} {k n pc : Nat} {lv : List (Nat × Value)} {st : List Value} {i : Nat} {x : Int32} (hC : Cx E cc y) (j : Nat) (h : lv[j]? = some (i, .int x)) (d : decode cc pc = .ok (.iload i, 2)) (kk : G E M k n lv (.int x :: st) (pc + 2)) : G E M k n lv (st) pc := by
  obtain ⟨p, l, e, R, s, m, args, below, meth, c, D, b0, nL, Q⟩ := E
  obtain ⟨hx, hb, hml, hown, hts, hKn, hb0, hlk, hmn⟩ := hC
  intro H locs ls hR hS hl
  exact lv_iload hx hb d (lv_at hl j h) (kk H locs ls hR hS hl)
theorem G_aload_n {E : Cxt} {cc : ByteArray} {y : MethodName} {M : Mp} {k n pc : Nat} {lv : List (Nat × Value)} {st : List Value} {f : Fin 4} {i : Nat} {x : Nat} (hC : Cx E cc y) (j : Nat) (h : lv[j]? = some (i, .ref x)) (hi : (f : Nat) = i) (d : decode cc pc = .ok (.aload_n f, 1)) (kk : G E M k n lv (.ref x :: st) (pc + 1)) : G E M k n lv (st) pc := by
  obtain ⟨p, l, e, R, s, m, args, below, meth, c, D, b0, nL, Q⟩ := E
  obtain ⟨hx, hb, hml, hown, hts, hKn, hb0, hlk, hmn⟩ := hC
  intro H locs ls hR hS hl
  exact lv_aload_n hx hb d hi (lv_at hl j h) (kk H locs ls hR hS hl)
theorem G_aload {E : Cxt} {cc : ByteArray} {y : MethodName} {M : Mp} {k n pc : Nat} {lv : List (Nat × Value)} {st : List Value} {i : Nat} {x : Nat} (hC : Cx E cc y) (j : Nat) (h : lv[j]? = some (i, .ref x)) (d : decode cc pc = .ok (.aload i, 2)) (kk : G E M k n lv (.ref x :: st) (pc + 2)) : G E M k n lv (st) pc := by
  obtain ⟨p, l, e, R, s, m, args, below, meth, c, D, b0, nL, Q⟩ := E
  obtain ⟨hx, hb, hml, hown, hts, hKn, hb0, hlk, hmn⟩ := hC
  intro H locs ls hR hS hl
  exact lv_aload hx hb d (lv_at hl j h) (kk H locs ls hR hS hl)
theorem G_lload_n {E : Cxt} {cc : ByteArray} {y : MethodName} {M : Mp} {k n pc : Nat} {lv : List (Nat × Value)} {st : List Value} {f : Fin 4} {i : Nat} {x : Int64} (hC : Cx E cc y) (j : Nat) (h : lv[j]? = some (i, .long x)) (hi : (f : Nat) = i) (d : decode cc pc = .ok (.lload_n f, 1)) (kk : G E M k n lv (.long x :: st) (pc + 1)) : G E M k n lv (st) pc := by
  obtain ⟨p, l, e, R, s, m, args, below, meth, c, D, b0, nL, Q⟩ := E
  obtain ⟨hx, hb, hml, hown, hts, hKn, hb0, hlk, hmn⟩ := hC
  intro H locs ls hR hS hl
  exact lv_lload_n hx hb d hi (lv_at hl j h) (kk H locs ls hR hS hl)
theorem G_lload {E : Cxt} {cc : ByteArray} {y : MethodName} {M : Mp} {k n pc : Nat} {lv : List (Nat × Value)} {st : List Value} {i : Nat} {x : Int64} (hC : Cx E cc y) (j : Nat) (h : lv[j]? = some (i, .long x)) (d : decode cc pc = .ok (.lload i, 2)) (kk : G E M k n lv (.long x :: st) (pc + 2)) : G E M k n lv (st) pc := by
  obtain ⟨p, l, e, R, s, m, args, below, meth, c, D, b0, nL, Q⟩ := E
  obtain ⟨hx, hb, hml, hown, hts, hKn, hb0, hlk, hmn⟩ := hC
  intro H locs ls hR hS hl
  exact lv_lload hx hb d (lv_at hl j h) (kk H locs ls hR hS hl)
theorem G_aload_nN {E : Cxt} {cc : ByteArray} {y : MethodName} {M : Mp} {k n pc : Nat} {lv : List (Nat × Value)} {st : List Value} {f : Fin 4} {i : Nat} (hC : Cx E cc y) (j : Nat) (h : lv[j]? = some (i, .null)) (hi : (f : Nat) = i) (d : decode cc pc = .ok (.aload_n f, 1)) (kk : G E M k n lv (.null :: st) (pc + 1)) : G E M k n lv (st) pc := by
  obtain ⟨p, l, e, R, s, m, args, below, meth, c, D, b0, nL, Q⟩ := E
  obtain ⟨hx, hb, hml, hown, hts, hKn, hb0, hlk, hmn⟩ := hC
  intro H locs ls hR hS hl
  exact lv_aload_nN hx hb d hi (lv_at hl j h) (kk H locs ls hR hS hl)
theorem G_aloadN {E : Cxt} {cc : ByteArray} {y : MethodName} {M : Mp} {k n pc : Nat} {lv : List (Nat × Value)} {st : List Value} {i : Nat} (hC : Cx E cc y) (j : Nat) (h : lv[j]? = some (i, .null)) (d : decode cc pc = .ok (.aload i, 2)) (kk : G E M k n lv (.null :: st) (pc + 2)) : G E M k n lv (st) pc := by
  obtain ⟨p, l, e, R, s, m, args, below, meth, c, D, b0, nL, Q⟩ := E
  obtain ⟨hx, hb, hml, hown, hts, hKn, hb0, hlk, hmn⟩ := hC
  intro H locs ls hR hS hl
  exact lv_aloadN hx hb d (lv_at hl j h) (kk H locs ls hR hS hl)
theorem G_istore_n {E : Cxt} {cc : ByteArray} {y : MethodName} {M : Mp} {k n pc : Nat} {lv : List (Nat × Value)} {st : List Value} {f : Fin 4} {i : Nat} {x : Int32} {lv' : List (Nat × Value)} (hC : Cx E cc y) (hi : (f : Nat) = i) (hn : i < eN E) (hl' : (i, Value.int x) :: lv.filter (fun q => !(q.1 == i) && !(q.1 + 1 == i && q.2.category == 2)) = lv') (d : decode cc pc = .ok (.istore_n f, 1)) (kk : G E M k n lv' st (pc + 1)) : G E M k n lv (Value.int x :: st) pc := by
  obtain ⟨p, l, e, R, s, m, args, below, meth, c, D, b0, nL, Q⟩ := E
  obtain ⟨hx, hb, hml, hown, hts, hKn, hb0, hlk, hmn⟩ := hC
  intro H locs ls hR hS hl
  exact lv_istore_n hx hb d hi hl hn hl' (fun ls' h' => kk H locs ls' hR hS h')
theorem G_istore {E : Cxt} {cc : ByteArray} {y : MethodName} {M : Mp} {k n pc : Nat} {lv : List (Nat × Value)} {st : List Value} {i : Nat} {x : Int32} {lv' : List (Nat × Value)} (hC : Cx E cc y) (hn : i < eN E) (hl' : (i, Value.int x) :: lv.filter (fun q => !(q.1 == i) && !(q.1 + 1 == i && q.2.category == 2)) = lv') (d : decode cc pc = .ok (.istore i, 2)) (kk : G E M k n lv' st (pc + 2)) : G E M k n lv (Value.int x :: st) pc := by
  obtain ⟨p, l, e, R, s, m, args, below, meth, c, D, b0, nL, Q⟩ := E
  obtain ⟨hx, hb, hml, hown, hts, hKn, hb0, hlk, hmn⟩ := hC
  intro H locs ls hR hS hl
  exact lv_istore hx hb d hl hn hl' (fun ls' h' => kk H locs ls' hR hS h')
theorem G_astore_n {E : Cxt} {cc : ByteArray} {y : MethodName} {M : Mp} {k n pc : Nat} {lv : List (Nat × Value)} {st : List Value} {f : Fin 4} {i : Nat} {x : Nat} {lv' : List (Nat × Value)} (hC : Cx E cc y) (hi : (f : Nat) = i) (hn : i < eN E) (hl' : (i, Value.ref x) :: lv.filter (fun q => !(q.1 == i) && !(q.1 + 1 == i && q.2.category == 2)) = lv') (d : decode cc pc = .ok (.astore_n f, 1)) (kk : G E M k n lv' st (pc + 1)) : G E M k n lv (Value.ref x :: st) pc := by
  obtain ⟨p, l, e, R, s, m, args, below, meth, c, D, b0, nL, Q⟩ := E
  obtain ⟨hx, hb, hml, hown, hts, hKn, hb0, hlk, hmn⟩ := hC
  intro H locs ls hR hS hl
  exact lv_astore_n hx hb d hi hl hn hl' (fun ls' h' => kk H locs ls' hR hS h')
theorem G_astore {E : Cxt} {cc : ByteArray} {y : MethodName} {M : Mp} {k n pc : Nat} {lv : List (Nat × Value)} {st : List Value} {i : Nat} {x : Nat} {lv' : List (Nat × Value)} (hC : Cx E cc y) (hn : i < eN E) (hl' : (i, Value.ref x) :: lv.filter (fun q => !(q.1 == i) && !(q.1 + 1 == i && q.2.category == 2)) = lv') (d : decode cc pc = .ok (.astore i, 2)) (kk : G E M k n lv' st (pc + 2)) : G E M k n lv (Value.ref x :: st) pc := by
  obtain ⟨p, l, e, R, s, m, args, below, meth, c, D, b0, nL, Q⟩ := E
  obtain ⟨hx, hb, hml, hown, hts, hKn, hb0, hlk, hmn⟩ := hC
  intro H locs ls hR hS hl
  exact lv_astore hx hb d hl hn hl' (fun ls' h' => kk H locs ls' hR hS h')
theorem G_astore_nN {E : Cxt} {cc : ByteArray} {y : MethodName} {M : Mp} {k n pc : Nat} {lv : List (Nat × Value)} {st : List Value} {f : Fin 4} {i : Nat} {lv' : List (Nat × Value)} (hC : Cx E cc y) (hi : (f : Nat) = i) (hn : i < eN E) (hl' : (i, Value.null) :: lv.filter (fun q => !(q.1 == i) && !(q.1 + 1 == i && q.2.category == 2)) = lv') (d : decode cc pc = .ok (.astore_n f, 1)) (kk : G E M k n lv' st (pc + 1)) : G E M k n lv (Value.null :: st) pc := by
  obtain ⟨p, l, e, R, s, m, args, below, meth, c, D, b0, nL, Q⟩ := E
  obtain ⟨hx, hb, hml, hown, hts, hKn, hb0, hlk, hmn⟩ := hC
  intro H locs ls hR hS hl
  exact lv_astore_nN hx hb d hi hl hn hl' (fun ls' h' => kk H locs ls' hR hS h')
theorem G_astoreN {E : Cxt} {cc : ByteArray} {y : MethodName} {M : Mp} {k n pc : Nat} {lv : List (Nat × Value)} {st : List Value} {i : Nat} {lv' : List (Nat × Value)} (hC : Cx E cc y) (hn : i < eN E) (hl' : (i, Value.null) :: lv.filter (fun q => !(q.1 == i) && !(q.1 + 1 == i && q.2.category == 2)) = lv') (d : decode cc pc = .ok (.astore i, 2)) (kk : G E M k n lv' st (pc + 2)) : G E M k n lv (Value.null :: st) pc := by
  obtain ⟨p, l, e, R, s, m, args, below, meth, c, D, b0, nL, Q⟩ := E
  obtain ⟨hx, hb, hml, hown, hts, hKn, hb0, hlk, hmn⟩ := hC
  intro H locs ls hR hS hl
  exact lv_astoreN hx hb d hl hn hl' (fun ls' h' => kk H locs ls' hR hS h')
theorem G_iinc {E : Cxt} {cc : ByteArray} {y : MethodName} {M : Mp} {k n pc : Nat} {lv : List (Nat × Value)} {st : List Value} {i : Nat} {j a : Int} {lv' : List (Nat × Value)} (hC : Cx E cc y) (q : Nat) (h : lv[q]? = some (i, vI a)) (hn : i < eN E) (hl' : (i, vI (a + j)) :: lv.filter (fun q => !(q.1 == i) && !(q.1 + 1 == i && q.2.category == 2)) = lv') (d : decode cc pc = .ok (.iinc i j, 3)) (kk : G E M k n lv' st (pc + 3)) : G E M k n lv st pc := by
  obtain ⟨p, l, e, R, s, m, args, below, meth, c, D, b0, nL, Q⟩ := E
  obtain ⟨hx, hb, hml, hown, hts, hKn, hb0, hlk, hmn⟩ := hC
  intro H locs ls hR hS hl
  exact lv_iinc hx hb d hl h (zI_add a j) hn hl' (fun ls' h' => kk H locs ls' hR hS h')
theorem G_iadd {E : Cxt} {cc : ByteArray} {y : MethodName} {M : Mp} {k n pc : Nat} {lv : List (Nat × Value)} {st : List Value} {a b : Int} (hC : Cx E cc y) (d : decode cc pc = .ok (.iadd, 1)) (kk : G E M k n lv (vI (a + b) :: st) (pc + 1)) : G E M k n lv (vI b :: vI a :: st) pc := by
  obtain ⟨p, l, e, R, s, m, args, below, meth, c, D, b0, nL, Q⟩ := E
  obtain ⟨hx, hb, hml, hown, hts, hKn, hb0, hlk, hmn⟩ := hC
  intro H locs ls hR hS hl
  refine lv_iadd hx hb d ?_
  rw [zI_add]
  exact kk H locs ls hR hS hl
theorem G_isub {E : Cxt} {cc : ByteArray} {y : MethodName} {M : Mp} {k n pc : Nat} {lv : List (Nat × Value)} {st : List Value} {a b : Int} (hC : Cx E cc y) (d : decode cc pc = .ok (.isub, 1)) (kk : G E M k n lv (vI (a - b) :: st) (pc + 1)) : G E M k n lv (vI b :: vI a :: st) pc := by
  obtain ⟨p, l, e, R, s, m, args, below, meth, c, D, b0, nL, Q⟩ := E
  obtain ⟨hx, hb, hml, hown, hts, hKn, hb0, hlk, hmn⟩ := hC
  intro H locs ls hR hS hl
  refine lv_isub hx hb d ?_
  rw [zI_sub]
  exact kk H locs ls hR hS hl
theorem G_imul {E : Cxt} {cc : ByteArray} {y : MethodName} {M : Mp} {k n pc : Nat} {lv : List (Nat × Value)} {st : List Value} {a b : Int} (hC : Cx E cc y) (d : decode cc pc = .ok (.imul, 1)) (kk : G E M k n lv (vI (a * b) :: st) (pc + 1)) : G E M k n lv (vI b :: vI a :: st) pc := by
  obtain ⟨p, l, e, R, s, m, args, below, meth, c, D, b0, nL, Q⟩ := E
  obtain ⟨hx, hb, hml, hown, hts, hKn, hb0, hlk, hmn⟩ := hC
  intro H locs ls hR hS hl
  refine lv_imul hx hb d ?_
  rw [zI_mul]
  exact kk H locs ls hR hS hl
theorem G_idiv {E : Cxt} {cc : ByteArray} {y : MethodName} {M : Mp} {k n pc : Nat} {lv : List (Nat × Value)} {st : List Value} {a b : Int} (hC : Cx E cc y) (ha9 : 0 ≤ a ∧ a ≤ 2147483647) (hb9 : 0 < b ∧ b ≤ 2147483647) (d : decode cc pc = .ok (.idiv, 1)) (kk : G E M k n lv (vI (a / b) :: st) (pc + 1)) : G E M k n lv (vI b :: vI a :: st) pc := by
  obtain ⟨p, l, e, R, s, m, args, below, meth, c, D, b0, nL, Q⟩ := E
  obtain ⟨hx, hb, hml, hown, hts, hKn, hb0, hlk, hmn⟩ := hC
  intro H locs ls hR hS hl
  refine lv_idiv hx hb d (zI_ne0 hb9) ?_
  rw [zI_div ha9 hb9]
  exact kk H locs ls hR hS hl
theorem G_irem {E : Cxt} {cc : ByteArray} {y : MethodName} {M : Mp} {k n pc : Nat} {lv : List (Nat × Value)} {st : List Value} {a b : Int} (hC : Cx E cc y) (ha9 : 0 ≤ a ∧ a ≤ 2147483647) (hb9 : 0 < b ∧ b ≤ 2147483647) (d : decode cc pc = .ok (.irem, 1)) (kk : G E M k n lv (vI (a % b) :: st) (pc + 1)) : G E M k n lv (vI b :: vI a :: st) pc := by
  obtain ⟨p, l, e, R, s, m, args, below, meth, c, D, b0, nL, Q⟩ := E
  obtain ⟨hx, hb, hml, hown, hts, hKn, hb0, hlk, hmn⟩ := hC
  intro H locs ls hR hS hl
  refine lv_irem hx hb d (zI_ne0 hb9) ?_
  rw [zI_rem ha9 hb9]
  exact kk H locs ls hR hS hl
theorem G_iand {E : Cxt} {cc : ByteArray} {y : MethodName} {M : Mp} {k n pc : Nat} {lv : List (Nat × Value)} {st : List Value} {x x2 z : Int32} (hC : Cx E cc y) (hz : x &&& x2 = z) (d : decode cc pc = .ok (.iand, 1)) (kk : G E M k n lv (.int z :: st) (pc + 1)) : G E M k n lv (.int x2 :: .int x :: st) pc := by
  obtain ⟨p, l, e, R, s, m, args, below, meth, c, D, b0, nL, Q⟩ := E
  obtain ⟨hx, hb, hml, hown, hts, hKn, hb0, hlk, hmn⟩ := hC
  intro H locs ls hR hS hl
  refine lv_iand hx hb d ?_
  rw [hz]
  exact kk H locs ls hR hS hl
theorem G_ior {E : Cxt} {cc : ByteArray} {y : MethodName} {M : Mp} {k n pc : Nat} {lv : List (Nat × Value)} {st : List Value} {x x2 z : Int32} (hC : Cx E cc y) (hz : x ||| x2 = z) (d : decode cc pc = .ok (.ior, 1)) (kk : G E M k n lv (.int z :: st) (pc + 1)) : G E M k n lv (.int x2 :: .int x :: st) pc := by
  obtain ⟨p, l, e, R, s, m, args, below, meth, c, D, b0, nL, Q⟩ := E
  obtain ⟨hx, hb, hml, hown, hts, hKn, hb0, hlk, hmn⟩ := hC
  intro H locs ls hR hS hl
  refine lv_ior hx hb d ?_
  rw [hz]
  exact kk H locs ls hR hS hl
theorem G_ixor {E : Cxt} {cc : ByteArray} {y : MethodName} {M : Mp} {k n pc : Nat} {lv : List (Nat × Value)} {st : List Value} {x x2 z : Int32} (hC : Cx E cc y) (hz : x ^^^ x2 = z) (d : decode cc pc = .ok (.ixor, 1)) (kk : G E M k n lv (.int z :: st) (pc + 1)) : G E M k n lv (.int x2 :: .int x :: st) pc := by
  obtain ⟨p, l, e, R, s, m, args, below, meth, c, D, b0, nL, Q⟩ := E
  obtain ⟨hx, hb, hml, hown, hts, hKn, hb0, hlk, hmn⟩ := hC
  intro H locs ls hR hS hl
  refine lv_ixor hx hb d ?_
  rw [hz]
  exact kk H locs ls hR hS hl
theorem G_ishl {E : Cxt} {cc : ByteArray} {y : MethodName} {M : Mp} {k n pc : Nat} {lv : List (Nat × Value)} {st : List Value} {x x2 z : Int32} (hC : Cx E cc y) (hz : x <<< (x2 &&& 31) = z) (d : decode cc pc = .ok (.ishl, 1)) (kk : G E M k n lv (.int z :: st) (pc + 1)) : G E M k n lv (.int x2 :: .int x :: st) pc := by
  obtain ⟨p, l, e, R, s, m, args, below, meth, c, D, b0, nL, Q⟩ := E
  obtain ⟨hx, hb, hml, hown, hts, hKn, hb0, hlk, hmn⟩ := hC
  intro H locs ls hR hS hl
  refine lv_ishl hx hb d ?_
  rw [hz]
  exact kk H locs ls hR hS hl
theorem G_ishr {E : Cxt} {cc : ByteArray} {y : MethodName} {M : Mp} {k n pc : Nat} {lv : List (Nat × Value)} {st : List Value} {x x2 z : Int32} (hC : Cx E cc y) (hz : x >>> (x2 &&& 31) = z) (d : decode cc pc = .ok (.ishr, 1)) (kk : G E M k n lv (.int z :: st) (pc + 1)) : G E M k n lv (.int x2 :: .int x :: st) pc := by
  obtain ⟨p, l, e, R, s, m, args, below, meth, c, D, b0, nL, Q⟩ := E
  obtain ⟨hx, hb, hml, hown, hts, hKn, hb0, hlk, hmn⟩ := hC
  intro H locs ls hR hS hl
  refine lv_ishr hx hb d ?_
  rw [hz]
  exact kk H locs ls hR hS hl
theorem G_iushr {E : Cxt} {cc : ByteArray} {y : MethodName} {M : Mp} {k n pc : Nat} {lv : List (Nat × Value)} {st : List Value} {x x2 z : Int32} (hC : Cx E cc y) (hz : (x.toUInt32 >>> (x2.toUInt32 &&& Int32.toUInt32 31)).toInt32 = z) (d : decode cc pc = .ok (.iushr, 1)) (kk : G E M k n lv (.int z :: st) (pc + 1)) : G E M k n lv (.int x2 :: .int x :: st) pc := by
  obtain ⟨p, l, e, R, s, m, args, below, meth, c, D, b0, nL, Q⟩ := E
  obtain ⟨hx, hb, hml, hown, hts, hKn, hb0, hlk, hmn⟩ := hC
  intro H locs ls hR hS hl
  exact lv_iushr hx hb d hz (kk H locs ls hR hS hl)
theorem G_i2b {E : Cxt} {cc : ByteArray} {y : MethodName} {M : Mp} {k n pc : Nat} {lv : List (Nat × Value)} {st : List Value} {x z : Int32} (hC : Cx E cc y) (hz : x.toInt8.toInt32 = z) (d : decode cc pc = .ok (.i2b, 1)) (kk : G E M k n lv (.int z :: st) (pc + 1)) : G E M k n lv (.int x :: st) pc := by
  obtain ⟨p, l, e, R, s, m, args, below, meth, c, D, b0, nL, Q⟩ := E
  obtain ⟨hx, hb, hml, hown, hts, hKn, hb0, hlk, hmn⟩ := hC
  intro H locs ls hR hS hl
  exact lv_i2b hx hb d hz (kk H locs ls hR hS hl)
theorem G_i2c {E : Cxt} {cc : ByteArray} {y : MethodName} {M : Mp} {k n pc : Nat} {lv : List (Nat × Value)} {st : List Value} {x z : Int32} (hC : Cx E cc y) (hz : (x.toUInt32 % 65536).toInt32 = z) (d : decode cc pc = .ok (.i2c, 1)) (kk : G E M k n lv (.int z :: st) (pc + 1)) : G E M k n lv (.int x :: st) pc := by
  obtain ⟨p, l, e, R, s, m, args, below, meth, c, D, b0, nL, Q⟩ := E
  obtain ⟨hx, hb, hml, hown, hts, hKn, hb0, hlk, hmn⟩ := hC
  intro H locs ls hR hS hl
  exact lv_i2c hx hb d hz (kk H locs ls hR hS hl)
theorem G_i2l {E : Cxt} {cc : ByteArray} {y : MethodName} {M : Mp} {k n pc : Nat} {lv : List (Nat × Value)} {st : List Value} {x : Int32} {z : Int64} (hC : Cx E cc y) (hz : x.toInt64 = z) (d : decode cc pc = .ok (.i2l, 1)) (kk : G E M k n lv (.long z :: st) (pc + 1)) : G E M k n lv (.int x :: st) pc := by
  obtain ⟨p, l, e, R, s, m, args, below, meth, c, D, b0, nL, Q⟩ := E
  obtain ⟨hx, hb, hml, hown, hts, hKn, hb0, hlk, hmn⟩ := hC
  intro H locs ls hR hS hl
  exact lv_i2l hx hb d hz (kk H locs ls hR hS hl)
theorem G_dup {E : Cxt} {cc : ByteArray} {y : MethodName} {M : Mp} {k n pc : Nat} {lv : List (Nat × Value)} {st : List Value} {v : Value} (hC : Cx E cc y) (hv : v.category = 1) (d : decode cc pc = .ok (.dup, 1)) (kk : G E M k n lv (v :: v :: st) (pc + 1)) : G E M k n lv (v :: st) pc := by
  obtain ⟨p, l, e, R, s, m, args, below, meth, c, D, b0, nL, Q⟩ := E
  obtain ⟨hx, hb, hml, hown, hts, hKn, hb0, hlk, hmn⟩ := hC
  intro H locs ls hR hS hl
  exact lv_dup hx hb d hv (kk H locs ls hR hS hl)
theorem G_pop {E : Cxt} {cc : ByteArray} {y : MethodName} {M : Mp} {k n pc : Nat} {lv : List (Nat × Value)} {st : List Value} {v : Value} (hC : Cx E cc y) (hv : v.category = 1) (d : decode cc pc = .ok (.pop, 1)) (kk : G E M k n lv (st) (pc + 1)) : G E M k n lv (v :: st) pc := by
  obtain ⟨p, l, e, R, s, m, args, below, meth, c, D, b0, nL, Q⟩ := E
  obtain ⟨hx, hb, hml, hown, hts, hKn, hb0, hlk, hmn⟩ := hC
  intro H locs ls hR hS hl
  exact lv_pop hx hb d hv (kk H locs ls hR hS hl)
theorem G_if_eq {E : Cxt} {cc : ByteArray} {y : MethodName} {M : Mp} {k n pc : Nat} {lv : List (Nat × Value)} {st : List Value} {a : Int} {off : Int} (hC : Cx E cc y) (tgt : Nat) (ha9 : -2147483648 ≤ a ∧ a ≤ 2147483647) (ht : (pc : Int) + off = (tgt : Int)) (d : decode cc pc = .ok (.ifCond .eq off, 3)) (kt : a = 0 → G E M k n lv st tgt) (kf : ¬ a = 0 → G E M k n lv st (pc + 3)) : G E M k n lv (vI a :: st) pc := by
  obtain ⟨p, l, e, R, s, m, args, below, meth, c, D, b0, nL, Q⟩ := E
  obtain ⟨hx, hb, hml, hown, hts, hKn, hb0, hlk, hmn⟩ := hC
  intro H locs ls hR hS hl
  have hb9 : -2147483648 ≤ (0 : Int) ∧ (0 : Int) ≤ 2147483647 := by omega
  exact lv_if_eq hx hb d ht (fun q => kt (by rw [zI_0] at q; exact (zI_eq ha9 hb9).mp q) H locs ls hR hS hl) (fun q => kf (fun z => q (by rw [zI_0]; exact (zI_eq ha9 hb9).mpr z)) H locs ls hR hS hl)
theorem G_icmp_eq {E : Cxt} {cc : ByteArray} {y : MethodName} {M : Mp} {k n pc : Nat} {lv : List (Nat × Value)} {st : List Value} {a b : Int} {off : Int} (hC : Cx E cc y) (tgt : Nat) (ha9 : -2147483648 ≤ a ∧ a ≤ 2147483647) (hb9 : -2147483648 ≤ b ∧ b ≤ 2147483647) (ht : (pc : Int) + off = (tgt : Int)) (d : decode cc pc = .ok (.if_icmp .eq off, 3)) (kt : a = b → G E M k n lv st tgt) (kf : ¬ a = b → G E M k n lv st (pc + 3)) : G E M k n lv (vI b :: vI a :: st) pc := by
  obtain ⟨p, l, e, R, s, m, args, below, meth, c, D, b0, nL, Q⟩ := E
  obtain ⟨hx, hb, hml, hown, hts, hKn, hb0, hlk, hmn⟩ := hC
  intro H locs ls hR hS hl
  exact lv_icmp_eq hx hb d ht (fun q => kt (by exact (zI_eq ha9 hb9).mp q) H locs ls hR hS hl) (fun q => kf (fun z => q (by exact (zI_eq ha9 hb9).mpr z)) H locs ls hR hS hl)
theorem G_if_ne {E : Cxt} {cc : ByteArray} {y : MethodName} {M : Mp} {k n pc : Nat} {lv : List (Nat × Value)} {st : List Value} {a : Int} {off : Int} (hC : Cx E cc y) (tgt : Nat) (ha9 : -2147483648 ≤ a ∧ a ≤ 2147483647) (ht : (pc : Int) + off = (tgt : Int)) (d : decode cc pc = .ok (.ifCond .ne off, 3)) (kt : ¬ a = 0 → G E M k n lv st tgt) (kf : a = 0 → G E M k n lv st (pc + 3)) : G E M k n lv (vI a :: st) pc := by
  obtain ⟨p, l, e, R, s, m, args, below, meth, c, D, b0, nL, Q⟩ := E
  obtain ⟨hx, hb, hml, hown, hts, hKn, hb0, hlk, hmn⟩ := hC
  intro H locs ls hR hS hl
  have hb9 : -2147483648 ≤ (0 : Int) ∧ (0 : Int) ≤ 2147483647 := by omega
  exact lv_if_ne hx hb d ht (fun q => kt (fun z => q (by rw [zI_0]; exact (zI_eq ha9 hb9).mpr z)) H locs ls hR hS hl) (fun q => kf (by rw [zI_0] at q; exact (zI_eq ha9 hb9).mp q) H locs ls hR hS hl)
theorem G_icmp_ne {E : Cxt} {cc : ByteArray} {y : MethodName} {M : Mp} {k n pc : Nat} {lv : List (Nat × Value)} {st : List Value} {a b : Int} {off : Int} (hC : Cx E cc y) (tgt : Nat) (ha9 : -2147483648 ≤ a ∧ a ≤ 2147483647) (hb9 : -2147483648 ≤ b ∧ b ≤ 2147483647) (ht : (pc : Int) + off = (tgt : Int)) (d : decode cc pc = .ok (.if_icmp .ne off, 3)) (kt : ¬ a = b → G E M k n lv st tgt) (kf : a = b → G E M k n lv st (pc + 3)) : G E M k n lv (vI b :: vI a :: st) pc := by
  obtain ⟨p, l, e, R, s, m, args, below, meth, c, D, b0, nL, Q⟩ := E
  obtain ⟨hx, hb, hml, hown, hts, hKn, hb0, hlk, hmn⟩ := hC
  intro H locs ls hR hS hl
  exact lv_icmp_ne hx hb d ht (fun q => kt (fun z => q (by exact (zI_eq ha9 hb9).mpr z)) H locs ls hR hS hl) (fun q => kf (by exact (zI_eq ha9 hb9).mp q) H locs ls hR hS hl)
theorem G_if_lt {E : Cxt} {cc : ByteArray} {y : MethodName} {M : Mp} {k n pc : Nat} {lv : List (Nat × Value)} {st : List Value} {a : Int} {off : Int} (hC : Cx E cc y) (tgt : Nat) (ha9 : -2147483648 ≤ a ∧ a ≤ 2147483647) (ht : (pc : Int) + off = (tgt : Int)) (d : decode cc pc = .ok (.ifCond .lt off, 3)) (kt : a < 0 → G E M k n lv st tgt) (kf : ¬ a < 0 → G E M k n lv st (pc + 3)) : G E M k n lv (vI a :: st) pc := by
  obtain ⟨p, l, e, R, s, m, args, below, meth, c, D, b0, nL, Q⟩ := E
  obtain ⟨hx, hb, hml, hown, hts, hKn, hb0, hlk, hmn⟩ := hC
  intro H locs ls hR hS hl
  have hb9 : -2147483648 ≤ (0 : Int) ∧ (0 : Int) ≤ 2147483647 := by omega
  exact lv_if_lt hx hb d ht (fun q => kt (by rw [zI_0] at q; exact (zI_lt ha9 hb9).mp q) H locs ls hR hS hl) (fun q => kf (fun z => q (by rw [zI_0]; exact (zI_lt ha9 hb9).mpr z)) H locs ls hR hS hl)
theorem G_icmp_lt {E : Cxt} {cc : ByteArray} {y : MethodName} {M : Mp} {k n pc : Nat} {lv : List (Nat × Value)} {st : List Value} {a b : Int} {off : Int} (hC : Cx E cc y) (tgt : Nat) (ha9 : -2147483648 ≤ a ∧ a ≤ 2147483647) (hb9 : -2147483648 ≤ b ∧ b ≤ 2147483647) (ht : (pc : Int) + off = (tgt : Int)) (d : decode cc pc = .ok (.if_icmp .lt off, 3)) (kt : a < b → G E M k n lv st tgt) (kf : ¬ a < b → G E M k n lv st (pc + 3)) : G E M k n lv (vI b :: vI a :: st) pc := by
  obtain ⟨p, l, e, R, s, m, args, below, meth, c, D, b0, nL, Q⟩ := E
  obtain ⟨hx, hb, hml, hown, hts, hKn, hb0, hlk, hmn⟩ := hC
  intro H locs ls hR hS hl
  exact lv_icmp_lt hx hb d ht (fun q => kt (by exact (zI_lt ha9 hb9).mp q) H locs ls hR hS hl) (fun q => kf (fun z => q (by exact (zI_lt ha9 hb9).mpr z)) H locs ls hR hS hl)
theorem G_if_ge {E : Cxt} {cc : ByteArray} {y : MethodName} {M : Mp} {k n pc : Nat} {lv : List (Nat × Value)} {st : List Value} {a : Int} {off : Int} (hC : Cx E cc y) (tgt : Nat) (ha9 : -2147483648 ≤ a ∧ a ≤ 2147483647) (ht : (pc : Int) + off = (tgt : Int)) (d : decode cc pc = .ok (.ifCond .ge off, 3)) (kt : 0 ≤ a → G E M k n lv st tgt) (kf : ¬ 0 ≤ a → G E M k n lv st (pc + 3)) : G E M k n lv (vI a :: st) pc := by
  obtain ⟨p, l, e, R, s, m, args, below, meth, c, D, b0, nL, Q⟩ := E
  obtain ⟨hx, hb, hml, hown, hts, hKn, hb0, hlk, hmn⟩ := hC
  intro H locs ls hR hS hl
  have hb9 : -2147483648 ≤ (0 : Int) ∧ (0 : Int) ≤ 2147483647 := by omega
  exact lv_if_ge hx hb d ht (fun q => kt (by rw [zI_0] at q; exact (zI_le hb9 ha9).mp q) H locs ls hR hS hl) (fun q => kf (fun z => q (by rw [zI_0]; exact (zI_le hb9 ha9).mpr z)) H locs ls hR hS hl)
theorem G_icmp_ge {E : Cxt} {cc : ByteArray} {y : MethodName} {M : Mp} {k n pc : Nat} {lv : List (Nat × Value)} {st : List Value} {a b : Int} {off : Int} (hC : Cx E cc y) (tgt : Nat) (ha9 : -2147483648 ≤ a ∧ a ≤ 2147483647) (hb9 : -2147483648 ≤ b ∧ b ≤ 2147483647) (ht : (pc : Int) + off = (tgt : Int)) (d : decode cc pc = .ok (.if_icmp .ge off, 3)) (kt : b ≤ a → G E M k n lv st tgt) (kf : ¬ b ≤ a → G E M k n lv st (pc + 3)) : G E M k n lv (vI b :: vI a :: st) pc := by
  obtain ⟨p, l, e, R, s, m, args, below, meth, c, D, b0, nL, Q⟩ := E
  obtain ⟨hx, hb, hml, hown, hts, hKn, hb0, hlk, hmn⟩ := hC
  intro H locs ls hR hS hl
  exact lv_icmp_ge hx hb d ht (fun q => kt (by exact (zI_le hb9 ha9).mp q) H locs ls hR hS hl) (fun q => kf (fun z => q (by exact (zI_le hb9 ha9).mpr z)) H locs ls hR hS hl)
theorem G_if_gt {E : Cxt} {cc : ByteArray} {y : MethodName} {M : Mp} {k n pc : Nat} {lv : List (Nat × Value)} {st : List Value} {a : Int} {off : Int} (hC : Cx E cc y) (tgt : Nat) (ha9 : -2147483648 ≤ a ∧ a ≤ 2147483647) (ht : (pc : Int) + off = (tgt : Int)) (d : decode cc pc = .ok (.ifCond .gt off, 3)) (kt : 0 < a → G E M k n lv st tgt) (kf : ¬ 0 < a → G E M k n lv st (pc + 3)) : G E M k n lv (vI a :: st) pc := by
  obtain ⟨p, l, e, R, s, m, args, below, meth, c, D, b0, nL, Q⟩ := E
  obtain ⟨hx, hb, hml, hown, hts, hKn, hb0, hlk, hmn⟩ := hC
  intro H locs ls hR hS hl
  have hb9 : -2147483648 ≤ (0 : Int) ∧ (0 : Int) ≤ 2147483647 := by omega
  exact lv_if_gt hx hb d ht (fun q => kt (by rw [zI_0] at q; exact (zI_lt hb9 ha9).mp q) H locs ls hR hS hl) (fun q => kf (fun z => q (by rw [zI_0]; exact (zI_lt hb9 ha9).mpr z)) H locs ls hR hS hl)
theorem G_icmp_gt {E : Cxt} {cc : ByteArray} {y : MethodName} {M : Mp} {k n pc : Nat} {lv : List (Nat × Value)} {st : List Value} {a b : Int} {off : Int} (hC : Cx E cc y) (tgt : Nat) (ha9 : -2147483648 ≤ a ∧ a ≤ 2147483647) (hb9 : -2147483648 ≤ b ∧ b ≤ 2147483647) (ht : (pc : Int) + off = (tgt : Int)) (d : decode cc pc = .ok (.if_icmp .gt off, 3)) (kt : b < a → G E M k n lv st tgt) (kf : ¬ b < a → G E M k n lv st (pc + 3)) : G E M k n lv (vI b :: vI a :: st) pc := by
  obtain ⟨p, l, e, R, s, m, args, below, meth, c, D, b0, nL, Q⟩ := E
  obtain ⟨hx, hb, hml, hown, hts, hKn, hb0, hlk, hmn⟩ := hC
  intro H locs ls hR hS hl
  exact lv_icmp_gt hx hb d ht (fun q => kt (by exact (zI_lt hb9 ha9).mp q) H locs ls hR hS hl) (fun q => kf (fun z => q (by exact (zI_lt hb9 ha9).mpr z)) H locs ls hR hS hl)
theorem G_if_le {E : Cxt} {cc : ByteArray} {y : MethodName} {M : Mp} {k n pc : Nat} {lv : List (Nat × Value)} {st : List Value} {a : Int} {off : Int} (hC : Cx E cc y) (tgt : Nat) (ha9 : -2147483648 ≤ a ∧ a ≤ 2147483647) (ht : (pc : Int) + off = (tgt : Int)) (d : decode cc pc = .ok (.ifCond .le off, 3)) (kt : a ≤ 0 → G E M k n lv st tgt) (kf : ¬ a ≤ 0 → G E M k n lv st (pc + 3)) : G E M k n lv (vI a :: st) pc := by
  obtain ⟨p, l, e, R, s, m, args, below, meth, c, D, b0, nL, Q⟩ := E
  obtain ⟨hx, hb, hml, hown, hts, hKn, hb0, hlk, hmn⟩ := hC
  intro H locs ls hR hS hl
  have hb9 : -2147483648 ≤ (0 : Int) ∧ (0 : Int) ≤ 2147483647 := by omega
  exact lv_if_le hx hb d ht (fun q => kt (by rw [zI_0] at q; exact (zI_le ha9 hb9).mp q) H locs ls hR hS hl) (fun q => kf (fun z => q (by rw [zI_0]; exact (zI_le ha9 hb9).mpr z)) H locs ls hR hS hl)
theorem G_icmp_le {E : Cxt} {cc : ByteArray} {y : MethodName} {M : Mp} {k n pc : Nat} {lv : List (Nat × Value)} {st : List Value} {a b : Int} {off : Int} (hC : Cx E cc y) (tgt : Nat) (ha9 : -2147483648 ≤ a ∧ a ≤ 2147483647) (hb9 : -2147483648 ≤ b ∧ b ≤ 2147483647) (ht : (pc : Int) + off = (tgt : Int)) (d : decode cc pc = .ok (.if_icmp .le off, 3)) (kt : a ≤ b → G E M k n lv st tgt) (kf : ¬ a ≤ b → G E M k n lv st (pc + 3)) : G E M k n lv (vI b :: vI a :: st) pc := by
  obtain ⟨p, l, e, R, s, m, args, below, meth, c, D, b0, nL, Q⟩ := E
  obtain ⟨hx, hb, hml, hown, hts, hKn, hb0, hlk, hmn⟩ := hC
  intro H locs ls hR hS hl
  exact lv_icmp_le hx hb d ht (fun q => kt (by exact (zI_le ha9 hb9).mp q) H locs ls hR hS hl) (fun q => kf (fun z => q (by exact (zI_le ha9 hb9).mpr z)) H locs ls hR hS hl)
theorem G_goto {E : Cxt} {cc : ByteArray} {y : MethodName} {M : Mp} {k n pc : Nat} {lv : List (Nat × Value)} {st : List Value} {off : Int} (hC : Cx E cc y) (tgt : Nat) (ht : (pc : Int) + off = (tgt : Int)) (d : decode cc pc = .ok (.goto off, 3)) (kk : G E M k n lv st tgt) : G E M k n lv st pc := by
  obtain ⟨p, l, e, R, s, m, args, below, meth, c, D, b0, nL, Q⟩ := E
  obtain ⟨hx, hb, hml, hown, hts, hKn, hb0, hlk, hmn⟩ := hC
  intro H locs ls hR hS hl
  exact lv_goto hx hb d ht (kk H locs ls hR hS hl)
theorem G_ifnonnull {E : Cxt} {cc : ByteArray} {y : MethodName} {M : Mp} {k n pc : Nat} {lv : List (Nat × Value)} {st : List Value} {off : Int} {x : Nat} (hC : Cx E cc y) (tgt : Nat) (ht : (pc : Int) + off = (tgt : Int)) (d : decode cc pc = .ok (.ifnonnull off, 3)) (kk : G E M k n lv st tgt) : G E M k n lv (.ref x :: st) pc := by
  obtain ⟨p, l, e, R, s, m, args, below, meth, c, D, b0, nL, Q⟩ := E
  obtain ⟨hx, hb, hml, hown, hts, hKn, hb0, hlk, hmn⟩ := hC
  intro H locs ls hR hS hl
  exact lv_ifnonnull hx hb d ht (kk H locs ls hR hS hl)
theorem G_ifnonnullN {E : Cxt} {cc : ByteArray} {y : MethodName} {M : Mp} {k n pc : Nat} {lv : List (Nat × Value)} {st : List Value} {off : Int} (hC : Cx E cc y) (d : decode cc pc = .ok (.ifnonnull off, 3)) (kk : G E M k n lv st (pc + 3)) : G E M k n lv (.null :: st) pc := by
  obtain ⟨p, l, e, R, s, m, args, below, meth, c, D, b0, nL, Q⟩ := E
  obtain ⟨hx, hb, hml, hown, hts, hKn, hb0, hlk, hmn⟩ := hC
  intro H locs ls hR hS hl
  exact lv_ifnonnullN hx hb d (kk H locs ls hR hS hl)
end
section
/-! HEAP AND CALLS: the rows of G for what reads or writes the world, and for calls -/
/-! ===== words, proved once a method, a link, a field ===== -/
/-- a field by its link: class ci of vwCl, field kf -/
def FL (own : String) (idx ci kf : Nat) : Prop := ∃ (C : String) (T : u_T) (N : Nat), vwCl[ci]? = some (C, T, N) ∧ (∀ w ∈ u_ws C T N, w ∈ TB) ∧ kf < N ∧ Cond.fieldLink own idx (T kf).1 (T kf).2.1 (T kf).2.2.1 ∈ TB
/-- the fields of class ci: their types, names apart -/
def FT (ci : Nat) (tys : Nat → FieldType) : Prop := ∀ (C : String) (T : u_T) (N : Nat), vwCl[ci]? = some (C, T, N) → (∀ k, k < N → parseFieldDescriptor (T k).2.2.1 = some (tys k)) ∧ (∀ a, a < N → ∀ b, b < N → a ≠ b → (T a).2.1 ≠ (T b).2.1)
/-- a field that may be written anywhere, or in the constructor of its class alone -/
def FW (ci kf : Nat) : Prop := ∀ (C : String) (T : u_T) (N : Nat), vwCl[ci]? = some (C, T, N) → (T kf).2.2.2 = false
def FF (own : String) (ci kf : Nat) : Prop := ∀ (C : String) (T : u_T) (N : Nat), vwCl[ci]? = some (C, T, N) → (T kf).2.2.2 = true ∧ (T kf).1 = own
theorem G_get {E : Cxt} {cc : ByteArray} {y : MethodName} {M : Mp} {k n pc idx ci kf a t : Nat} {lv : List (Nat × Value)} {st fs : List Value} {v : Value} (hC : Cx E cc y) (hF : FL y.cls idx ci kf) (ha : M a = some (t, .inr (ci, fs))) (hv : fs[kf]? = some v) (d : decode cc pc = .ok (.getfield idx, 3)) (kk : G E M k n lv (v :: st) (pc + 3)) : G E M k n lv (.ref a :: st) pc := by
  obtain ⟨p, l, e, R, s, m, args, below, meth, c, D, b0, nL, Q⟩ := E
  obtain ⟨hx, hb, hml, hown, hts, hKn, hb0, hlk, hmn⟩ := hC
  obtain ⟨C, T, N, h1, h2, h3, h4⟩ := hF
  intro H locs ls hR hS hl
  have hR' := hR
  obtain ⟨ws, hP, hD, hM⟩ := hR
  obtain ⟨q0, hq⟩ := hM a _ ha
  exact va_get (C := C) (T := T) (N := N) (ci := ci) hx hb hts h2 hown hKn.1 hP q0 hq h1 kf h3 (hts _ h4) (fun _ h9 => h9) hv d (kk H locs ls hR' hS hl)
theorem G_put {E : Cxt} {cc : ByteArray} {y : MethodName} {M : Mp} {k n pc idx ci kf a t : Nat} {lv : List (Nat × Value)} {st fs : List Value} {v : Value} {tys : Nat → FieldType} (hC : Cx E cc y) (hF : FL y.cls idx ci kf) (hT : FT ci tys) (hW : FW ci kf) (ha : M a = some (t, .inr (ci, fs))) (hn : narrow (tys kf) v = v) (hfit : fits (tys kf) v = true) (hlen : kf < fs.length) (d : decode cc pc = .ok (.putfield idx, 3)) (kk : G E (mset M a (t, .inr (ci, fs.set kf v))) k n lv st (pc + 3)) : G E M k n lv (v :: .ref a :: st) pc := by
  obtain ⟨p, l, e, R, s, m, args, below, meth, c, D, b0, nL, Q⟩ := E
  obtain ⟨hx, hb, hml, hown, hts, hKn, hb0, hlk, hmn⟩ := hC
  obtain ⟨C, T, N, h1, h2, h3, h4⟩ := hF
  obtain ⟨t1, t2⟩ := hT C T N h1
  intro H locs ls hR hS hl
  obtain ⟨ws, hP, hD, hM⟩ := hR
  obtain ⟨q0, hq⟩ := hM a _ ha
  exact va_put (C := C) (T := T) (N := N) (ci := ci) hx hb hts h2 tys t1 t2 hown hKn.1 hP hD hS q0 hq h1 kf h3 (hts _ h4) (fun _ h9 => h9) (hW C T N h1) (t1 kf h3) hn hfit hlen d (fun H1 locs1 hP1 hD1 hS1 => kk H1 locs1 ls (Rep_set t hq hM hP1 hD1) hS1 hl)
theorem G_putF {E : Cxt} {cc : ByteArray} {y : MethodName} {M : Mp} {k n pc idx ci kf a t : Nat} {lv : List (Nat × Value)} {st fs : List Value} {v : Value} {tys : Nat → FieldType} (hC : Cx E cc y) (hF : FL y.cls idx ci kf) (hT : FT ci tys) (hW : FF y.cls ci kf) (hy : y.name = "<init>") (ha : M a = some (t, .inr (ci, fs))) (hn : narrow (tys kf) v = v) (hfit : fits (tys kf) v = true) (hlen : kf < fs.length) (d : decode cc pc = .ok (.putfield idx, 3)) (kk : G E (mset M a (t, .inr (ci, fs.set kf v))) k n lv st (pc + 3)) : G E M k n lv (v :: .ref a :: st) pc := by
  obtain ⟨p, l, e, R, s, m, args, below, meth, c, D, b0, nL, Q⟩ := E
  obtain ⟨hx, hb, hml, hown, hts, hKn, hb0, hlk, hmn⟩ := hC
  obtain ⟨C, T, N, h1, h2, h3, h4⟩ := hF
  obtain ⟨t1, t2⟩ := hT C T N h1
  obtain ⟨w1, w2⟩ := hW C T N h1
  intro H locs ls hR hS hl
  obtain ⟨ws, hP, hD, hM⟩ := hR
  obtain ⟨q0, hq⟩ := hM a _ ha
  exact va_putF (C := C) (T := T) (N := N) (ci := ci) hx hb hts h2 tys t1 t2 hown hKn.1 hP hD hS q0 hq h1 kf h3 (hts _ h4) (fun _ h9 => h9) w1 (hmn.trans hy) w2 (t1 kf h3) hn hfit hlen d (fun H1 locs1 hP1 hD1 hS1 => kk H1 locs1 ls (Rep_set t hq hM hP1 hD1) hS1 hl)
/-! ===== arrays: bytes and ints by integers, references by addresses ===== -/
def arB (D : Dg) (n : Nat) (g : Nat → Int) : va_E := .inl (D.2.1 0, n, .inl (fun j => zI (g j)))
def arI (D : Dg) (n : Nat) (g : Nat → Int) : va_E := .inl (D.2.1 1, n, .inl (fun j => zI (g j)))
def arR (D : Dg) (q n : Nat) (f : Nat → Option Nat) : va_E := .inl (D.2.1 q, n, .inr (.inr (.inr (.inr f))))
def updZ (g : Nat → Int) (k : Nat) (x : Int) : Nat → Int := fun j => if j = k then x else g j
def cpyZ (f g : Nat → Int) (sp dp n : Nat) : Nat → Int := fun k => if dp ≤ k ∧ k < dp + n then f (sp + (k - dp)) else g k
theorem upd_zI (g : Nat → Int) (k : Nat) (x : Int) : upd (fun j => zI (g j)) k (zI x) = fun j => zI (updZ g k x j) := by
  funext j
  by_cases h : j = k <;> simp [upd, updZ, h]
theorem cpy_zI (f g : Nat → Int) (sp dp n : Nat) : va_cpy (fun j => zI (f j)) (fun j => zI (g j)) sp dp n = fun j => zI (cpyZ f g sp dp n j) := by
  funext j
  by_cases h : dp ≤ j ∧ j < dp + n <;> simp [va_cpy, cpyZ, h]
theorem zI_narB {x : Int} (h : -128 ≤ x ∧ x ≤ 127) : vp_nar .byte (zI x) = zI x := by
  rw [vp_nar_byte]
  apply Int32.toInt_inj.mp
  rw [zI_toInt (by omega)]
  have e : (zI x).toInt = x := zI_toInt (by omega)
  simp [e, Int.bmod]
  omega
theorem G_bald {E : Cxt} {cc : ByteArray} {y : MethodName} {M : Mp} {k n pc a t len : Nat} {lv : List (Nat × Value)} {st : List Value} {g : Nat → Int} {i : Int} (hC : Cx E cc y) (ha : M a = some (t, arB (eD E) len g)) (hi : 0 ≤ i ∧ i < len) (hi2 : i ≤ 2147483647) (d : decode cc pc = .ok (.baload, 1)) (kk : G E M k n lv (vI (g i.toNat) :: st) (pc + 1)) : G E M k n lv (vI i :: .ref a :: st) pc := by
  obtain ⟨p, l, e, R, s, m, args, below, meth, c, D, b0, nL, Q⟩ := E
  obtain ⟨hx, hb, hml, hown, hts, hKn, hb0, hlk, hmn⟩ := hC
  intro H locs ls hR hS hl
  have hR' := hR
  obtain ⟨ws, hP, hD, hM⟩ := hR
  obtain ⟨q0, hq⟩ := hM a _ ha
  refine va_bald hx hb hKn.1 hP q0 0 hq rfl (zI_in hi hi2) d ?_
  rw [zI_clamp ⟨hi.1, hi2⟩]
  exact kk H locs ls hR' hS hl
theorem G_iald {E : Cxt} {cc : ByteArray} {y : MethodName} {M : Mp} {k n pc a t len : Nat} {lv : List (Nat × Value)} {st : List Value} {g : Nat → Int} {i : Int} (hC : Cx E cc y) (ha : M a = some (t, arI (eD E) len g)) (hi : 0 ≤ i ∧ i < len) (hi2 : i ≤ 2147483647) (d : decode cc pc = .ok (.iaload, 1)) (kk : G E M k n lv (vI (g i.toNat) :: st) (pc + 1)) : G E M k n lv (vI i :: .ref a :: st) pc := by
  obtain ⟨p, l, e, R, s, m, args, below, meth, c, D, b0, nL, Q⟩ := E
  obtain ⟨hx, hb, hml, hown, hts, hKn, hb0, hlk, hmn⟩ := hC
  intro H locs ls hR hS hl
  have hR' := hR
  obtain ⟨ws, hP, hD, hM⟩ := hR
  obtain ⟨q0, hq⟩ := hM a _ ha
  refine va_iald hx hb hKn.1 hP q0 1 hq rfl (zI_in hi hi2) d ?_
  rw [zI_clamp ⟨hi.1, hi2⟩]
  exact kk H locs ls hR' hS hl
theorem G_bast {E : Cxt} {cc : ByteArray} {y : MethodName} {M : Mp} {k n pc a t len : Nat} {lv : List (Nat × Value)} {st : List Value} {g : Nat → Int} {i x : Int} (hC : Cx E cc y) (ha : M a = some (t, arB (eD E) len g)) (hi : 0 ≤ i ∧ i < len) (hi2 : i ≤ 2147483647) (hx9 : -128 ≤ x ∧ x ≤ 127) (d : decode cc pc = .ok (.bastore, 1)) (kk : G E (mset M a (t, arB (eD E) len (updZ g i.toNat x))) k n lv st (pc + 1)) : G E M k n lv (vI x :: vI i :: .ref a :: st) pc := by
  obtain ⟨p, l, e, R, s, m, args, below, meth, c, D, b0, nL, Q⟩ := E
  obtain ⟨hx, hb, hml, hown, hts, hKn, hb0, hlk, hmn⟩ := hC
  intro H locs ls hR hS hl
  obtain ⟨ws, hP, hD, hM⟩ := hR
  obtain ⟨q0, hq⟩ := hM a _ ha
  refine va_bast hx hb hKn.1 hP hD hS q0 0 hq rfl (zI_in hi hi2) d (fun H1 locs1 hP1 hD1 hS1 => ?_)
  rw [zI_clamp ⟨hi.1, hi2⟩, zI_narB hx9, upd_zI] at hP1 hD1
  exact kk H1 locs1 ls (Rep_set t hq hM hP1 hD1) hS1 hl
theorem G_iast {E : Cxt} {cc : ByteArray} {y : MethodName} {M : Mp} {k n pc a t len : Nat} {lv : List (Nat × Value)} {st : List Value} {g : Nat → Int} {i x : Int} (hC : Cx E cc y) (ha : M a = some (t, arI (eD E) len g)) (hi : 0 ≤ i ∧ i < len) (hi2 : i ≤ 2147483647) (d : decode cc pc = .ok (.iastore, 1)) (kk : G E (mset M a (t, arI (eD E) len (updZ g i.toNat x))) k n lv st (pc + 1)) : G E M k n lv (vI x :: vI i :: .ref a :: st) pc := by
  obtain ⟨p, l, e, R, s, m, args, below, meth, c, D, b0, nL, Q⟩ := E
  obtain ⟨hx, hb, hml, hown, hts, hKn, hb0, hlk, hmn⟩ := hC
  intro H locs ls hR hS hl
  obtain ⟨ws, hP, hD, hM⟩ := hR
  obtain ⟨q0, hq⟩ := hM a _ ha
  refine va_iast hx hb hKn.1 hP hD hS q0 1 hq rfl (zI_in hi hi2) d (fun H1 locs1 hP1 hD1 hS1 => ?_)
  rw [zI_clamp ⟨hi.1, hi2⟩, upd_zI] at hP1 hD1
  exact kk H1 locs1 ls (Rep_set t hq hM hP1 hD1) hS1 hl
theorem G_aald {E : Cxt} {cc : ByteArray} {y : MethodName} {M : Mp} {k n pc a t len q : Nat} {C : String} {lv : List (Nat × Value)} {st : List Value} {f : Nat → Option Nat} {i : Int} {v : Value} (hC : Cx E cc y) (ha : M a = some (t, arR (eD E) q len f)) (hq9 : (TYS (eD E))[q]? = some ((eD E).2.1 q, .object C)) (hi : 0 ≤ i ∧ i < len) (hi2 : i ≤ 2147483647) (hv : va_rf (f i.toNat) = v) (d : decode cc pc = .ok (.aaload, 1)) (kk : G E M k n lv (v :: st) (pc + 1)) : G E M k n lv (vI i :: .ref a :: st) pc := by
  obtain ⟨p, l, e, R, s, m, args, below, meth, c, D, b0, nL, Q⟩ := E
  obtain ⟨hx, hb, hml, hown, hts, hKn, hb0, hlk, hmn⟩ := hC
  intro H locs ls hR hS hl
  have hR' := hR
  obtain ⟨ws, hP, hD, hM⟩ := hR
  obtain ⟨q0, hq⟩ := hM a _ ha
  refine va_aldq hx hb hKn.1 hP q0 q hq hq9 (zI_in hi hi2) d ?_
  rw [zI_clamp ⟨hi.1, hi2⟩, hv]
  exact kk H locs ls hR' hS hl
theorem G_aast {E : Cxt} {cc : ByteArray} {y : MethodName} {M : Mp} {k n pc a t len q ci v u : Nat} {r : vw_C} {lv : List (Nat × Value)} {st vs : List Value} {f : Nat → Option Nat} {i : Int} (hC : Cx E cc y) (ha : M a = some (t, arR (eD E) q len f)) (hc : vwCl[ci]? = some r) (hq9 : (TYS (eD E))[q]? = some ((eD E).2.1 q, .object r.1)) (hv : M v = some (u, .inr (ci, vs))) (hi : 0 ≤ i ∧ i < len) (hi2 : i ≤ 2147483647) (d : decode cc pc = .ok (.aastore, 1)) (kk : G E (mset M a (t, arR (eD E) q len (va_up f i.toNat (some v)))) k n lv st (pc + 1)) : G E M k n lv (.ref v :: vI i :: .ref a :: st) pc := by
  obtain ⟨p, l, e, R, s, m, args, below, meth, c, D, b0, nL, Q⟩ := E
  obtain ⟨hx, hb, hml, hown, hts, hKn, hb0, hlk, hmn⟩ := hC
  intro H locs ls hR hS hl
  obtain ⟨ws, hP, hD, hM⟩ := hR
  obtain ⟨q0, hq⟩ := hM a _ ha
  obtain ⟨q1, hq1⟩ := hM v _ hv
  refine va_astq hx hb hKn.1 hP hD hS q0 q q1 ci hq hq9 hq1 hc (zI_in hi hi2) d (fun H1 locs1 hP1 hD1 hS1 => ?_)
  rw [zI_clamp ⟨hi.1, hi2⟩] at hP1 hD1
  exact kk H1 locs1 ls (Rep_set t hq hM hP1 hD1) hS1 hl
theorem G_alen {E : Cxt} {cc : ByteArray} {y : MethodName} {M : Mp} {k n pc a t len q : Nat} {lv : List (Nat × Value)} {st : List Value} {x : (Nat → Int32) ⊕ (Nat → Int64) ⊕ (Nat → UInt32) ⊕ (Nat → UInt64) ⊕ (Nat → Option Nat)} {ty : FieldType} (hC : Cx E cc y) (ha : M a = some (t, .inl ((eD E).2.1 q, len, x))) (hq9 : (TYS (eD E))[q]? = some ((eD E).2.1 q, ty)) (d : decode cc pc = .ok (.arraylength, 1)) (kk : G E M k n lv (vI len :: st) (pc + 1)) : G E M k n lv (.ref a :: st) pc := by
  obtain ⟨p, l, e, R, s, m, args, below, meth, c, D, b0, nL, Q⟩ := E
  obtain ⟨hx, hb, hml, hown, hts, hKn, hb0, hlk, hmn⟩ := hC
  intro H locs ls hR hS hl
  have hR' := hR
  obtain ⟨ws, hP, hD, hM⟩ := hR
  obtain ⟨q0, hq⟩ := hM a _ ha
  exact va_alen hx hb hKn.1 hP q0 q hq hq9 (zI_nat len).symm d (kk H locs ls hR' hS hl)
/-! ===== new cells ===== -/
theorem Rep_S {s : State} {b0 : Nat} (hb0 : b0 ≤ s.heap.size) : ∀ q, s.heap.size ≤ q → b0 ≤ q := fun _ h => Nat.le_trans hb0 h
theorem G_new {E : Cxt} {cc : ByteArray} {y : MethodName} {M : Mp} {k n pc idx ci : Nat} {C : String} {T : u_T} {N : Nat} {lv : List (Nat × Value)} {st fs : List Value} {tys : Nat → FieldType} (t : Nat) (hC : Cx E cc y) (hc : vwCl[ci]? = some (C, T, N)) (hT : FT ci tys) (hin : ∀ w ∈ u_ws C T N, w ∈ TB) (w1 : Cond.classLink y.cls idx C ∈ TB) (w2 : Cond.instantiable C N ∈ TB) (w3 : Cond.initialized C ∈ TB) (hfs : ∀ j, j < N → defaultValue (tys j) = vp_V fs j) (hk : k + 1 ≤ (eR E).cells) (hn : n + N ≤ (eR E).slots) (d : decode cc pc = .ok (.new idx, 3))
    (kk : ∀ q : Nat, M q = none → G E (mset M q (t, .inr (ci, fs))) (k + 1) (n + N) lv (.ref q :: st) (pc + 3)) : G E M k n lv st pc := by
  obtain ⟨p, l, e, R, s, m, args, below, meth, c, D, b0, nL, Q⟩ := E
  obtain ⟨hx, hb, hml, hown, hts, hKn, hb0, hlk, hmn⟩ := hC
  intro H locs ls hR hS hl
  obtain ⟨ws, hP, hD, hM⟩ := hR
  refine va_new hx hb hts hin tys (hT C T N hc).1 hown (hts _ w1) (hts _ w2) (hts _ w3) hKn.1 hP hD hS (Rep_S hb0) hc hfs hk hn d (fun q H1 hP1 hD1 hS1 => ?_)
  obtain ⟨h1, h2⟩ := Rep_push hM hP1 hD1
  exact kk q h1 H1 locs ls (h2 t) hS1 hl
theorem G_newB {E : Cxt} {cc : ByteArray} {y : MethodName} {M : Mp} {k n pc : Nat} {lv : List (Nat × Value)} {st : List Value} {i : Int} (t : Nat) (hC : Cx E cc y) (hw : Cond.arrayClass .byte ∈ TB) (hi : 0 ≤ i ∧ i ≤ 536870912) (hk : k + 1 ≤ (eR E).cells) (hn : n + i.toNat ≤ (eR E).slots) (d : decode cc pc = .ok (.newarray .byte, 2))
    (kk : ∀ q : Nat, M q = none → G E (mset M q (t, arB (eD E) i.toNat (fun _ => 0))) (k + 1) (n + i.toNat) lv (.ref q :: st) (pc + 2)) : G E M k n lv (vI i :: st) pc := by
  obtain ⟨p, l, e, R, s, m, args, below, meth, c, D, b0, nL, Q⟩ := E
  obtain ⟨hx, hb, hml, hown, hts, hKn, hb0, hlk, hmn⟩ := hC
  intro H locs ls hR hS hl
  obtain ⟨ws, hP, hD, hM⟩ := hR
  have hcl : (zI i).toNatClampNeg = i.toNat := zI_clamp (by omega)
  have hge : ¬ zI i < 0 := by rw [zI_0, zI_lt (by omega) (by omega)]; omega
  refine va_newa (atype := .byte) (ty := .byte) (a0 := (i.toNat, .inl (fun _ => zI 0))) hx hb (hts _ hw) rfl hKn.1 hP hD hS (Rep_S hb0) (fun cA => by rw [vp_cell_i, ← zI_0]; rfl) hge hcl (by show i.toNat * 1 ≤ _; omega) hk hn d (fun q cA H1 hK1 hP1 hD1 hS1 => ?_)
  have hcA : cA = D.2.1 0 := by
    have g1 := (hK1.2 (TYS D).length (cA, .byte) (by simp)).2
    have g2 := (hKn.1.2 0 _ rfl).2
    exact Option.some.inj (g1.symm.trans g2)
  subst hcA
  obtain ⟨h1, h2⟩ := Rep_push hM hP1 hD1
  exact kk q h1 H1 locs ls (h2 t) hS1 hl
theorem G_newI {E : Cxt} {cc : ByteArray} {y : MethodName} {M : Mp} {k n pc : Nat} {lv : List (Nat × Value)} {st : List Value} {i : Int} (t : Nat) (hC : Cx E cc y) (hw : Cond.arrayClass .int ∈ TB) (hi : 0 ≤ i ∧ i ≤ 100000000) (hk : k + 1 ≤ (eR E).cells) (hn : n + i.toNat ≤ (eR E).slots) (d : decode cc pc = .ok (.newarray .int, 2))
    (kk : ∀ q : Nat, M q = none → G E (mset M q (t, arI (eD E) i.toNat (fun _ => 0))) (k + 1) (n + i.toNat) lv (.ref q :: st) (pc + 2)) : G E M k n lv (vI i :: st) pc := by
  obtain ⟨p, l, e, R, s, m, args, below, meth, c, D, b0, nL, Q⟩ := E
  obtain ⟨hx, hb, hml, hown, hts, hKn, hb0, hlk, hmn⟩ := hC
  intro H locs ls hR hS hl
  obtain ⟨ws, hP, hD, hM⟩ := hR
  have hcl : (zI i).toNatClampNeg = i.toNat := zI_clamp (by omega)
  have hge : ¬ zI i < 0 := by rw [zI_0, zI_lt (by omega) (by omega)]; omega
  refine va_newa (atype := .int) (ty := .int) (a0 := (i.toNat, .inl (fun _ => zI 0))) hx hb (hts _ hw) rfl hKn.1 hP hD hS (Rep_S hb0) (fun cA => by rw [vp_cell_i, ← zI_0]; rfl) hge hcl (by show i.toNat * 4 ≤ _; omega) hk hn d (fun q cA H1 hK1 hP1 hD1 hS1 => ?_)
  have hcA : cA = D.2.1 1 := by
    have g1 := (hK1.2 (TYS D).length (cA, .int) (by simp)).2
    have g2 := (hKn.1.2 1 _ rfl).2
    exact Option.some.inj (g1.symm.trans g2)
  subst hcA
  obtain ⟨h1, h2⟩ := Rep_push hM hP1 hD1
  exact kk q h1 H1 locs ls (h2 t) hS1 hl
theorem G_anew {E : Cxt} {cc : ByteArray} {y : MethodName} {M : Mp} {k n pc idx q0 : Nat} {C : String} {lv : List (Nat × Value)} {st : List Value} {i : Int} (t : Nat) (hC : Cx E cc y) (w1 : Cond.classLink y.cls idx C ∈ TB) (hC9 : C ∈ ["SendPolicy$Entry", "SendPolicy$Level", "SendPolicyModel$Text"]) (hq9 : (TYS (eD E))[q0]? = some ((eD E).2.1 q0, .object C)) (hi : 0 ≤ i ∧ i ≤ 100000000) (hk : k + 1 ≤ (eR E).cells) (hn : n + i.toNat ≤ (eR E).slots) (d : decode cc pc = .ok (.anewarray idx, 3))
    (kk : ∀ q : Nat, M q = none → G E (mset M q (t, arR (eD E) q0 i.toNat (fun _ => none))) (k + 1) (n + i.toNat) lv (.ref q :: st) (pc + 3)) : G E M k n lv (vI i :: st) pc := by
  obtain ⟨p, l, e, R, s, m, args, below, meth, c, D, b0, nL, Q⟩ := E
  obtain ⟨hx, hb, hml, hown, hts, hKn, hb0, hlk, hmn⟩ := hC
  intro H locs ls hR hS hl
  obtain ⟨ws, hP, hD, hM⟩ := hR
  have hcl : (zI i).toNatClampNeg = i.toNat := zI_clamp (by omega)
  have hge : ¬ zI i < 0 := by rw [zI_0, zI_lt (by omega) (by omega)]; omega
  refine va_newq hx hb hown (hts _ w1) (hKn.2.1 C hC9) hKn.1 hP hD hS (Rep_S hb0) hge hcl (by omega) hk hn d (fun q cA H1 hK1 hP1 hD1 hS1 => ?_)
  have hcA : cA = D.2.1 q0 := by
    obtain ⟨kA, comp, -, -, -, g1⟩ := (hK1.2 (TYS D).length (cA, .object C) (by simp)).2
    obtain ⟨kA', comp', -, -, -, g2⟩ := (hKn.1.2 q0 _ hq9).2
    exact Option.some.inj (g1.symm.trans g2)
  subst hcA
  obtain ⟨h1, h2⟩ := Rep_push hM hP1 hD1
  exact kk q h1 H1 locs ls (h2 t) hS1 hl
/-! ===== the library's own ===== -/
theorem G_copyB {E : Cxt} {cc : ByteArray} {y : MethodName} {M : Mp} {k n pc idx a0 a1 t0 t1 n0 n1 : Nat} {lv : List (Nat × Value)} {st : List Value} {f g : Nat → Int} {sp dp len : Int} (hC : Cx E cc y) (w1 : Cond.methodLink y.cls idx arraycopyName ∈ TB) (w2 : Cond.native arraycopyName ∈ TB) (w3 : Cond.static arraycopyName ∈ TB) (w4 : Cond.initialized "java/lang/System" ∈ TB) (h0 : M a0 = some (t0, arB (eD E) n0 f)) (h1 : M a1 = some (t1, arB (eD E) n1 g)) (hsp : 0 ≤ sp ∧ 0 ≤ dp ∧ 0 ≤ len) (hs0 : sp + len ≤ n0) (hs1 : dp + len ≤ n1) (hbig : n0 ≤ 2147483647 ∧ n1 ≤ 2147483647) (hfit : ∀ j : Nat, -128 ≤ f j ∧ f j ≤ 127) (hfr : 1 ≤ (eR E).frames) (hlo : (st.map fun v => v.category).sum + (nativeFrameWords "java/lang/System" "arraycopy" 5 + 11) ≤ (eR E).locals) (d : decode cc pc = .ok (.invokestatic idx, 3))
    (kk : G E (mset M a1 (t1, arB (eD E) n1 (cpyZ f g sp.toNat dp.toNat len.toNat))) k n lv st (pc + 3)) : G E M k n lv (vI len :: vI dp :: .ref a1 :: vI sp :: .ref a0 :: st) pc := by
  obtain ⟨p, l, e, R, s, m, args, below, meth, c, D, b0, nL, Q⟩ := E
  obtain ⟨hx, hb, hml, hown, hts, hKn, hb0, hlk, hmn⟩ := hC
  intro H locs ls hR hS hl
  obtain ⟨ws, hP, hD, hM⟩ := hR
  obtain ⟨q0, hq0⟩ := hM a0 _ h0
  obtain ⟨q1, hq1⟩ := hM a1 _ h1
  have c1 : (zI sp).toNatClampNeg = sp.toNat := zI_clamp (by omega)
  have c2 : (zI dp).toNatClampNeg = dp.toNat := zI_clamp (by omega)
  have c3 : (zI len).toNatClampNeg = len.toNat := zI_clamp (by omega)
  have g1 : ¬ zI sp < 0 := by rw [zI_0, zI_lt (by omega) (by omega)]; omega
  have g2 : ¬ zI dp < 0 := by rw [zI_0, zI_lt (by omega) (by omega)]; omega
  have g3 : ¬ zI len < 0 := by rw [zI_0, zI_lt (by omega) (by omega)]; omega
  refine va_copyi (ty := .byte) hx hb (by rw [hml]; exact hl.1.symm) hown (hts _ w1) (hts _ w2) (hts _ w3) (hts _ w4) hKn.1 hP hD hS q0 q1 0 0 hq0 hq1 rfl rfl rfl g1 g2 g3 (by rw [c1, c3]; omega) (by rw [c2, c3]; omega) (fun j _ => by
    have h9 := hfit ((zI sp).toNatClampNeg + j)
    have h8 := pk_fb (zI (f ((zI sp).toNatClampNeg + j)))
    rw [← vp_nar_byte, zI_narB h9] at h8
    exact h8) hfr hlo d (fun H1 locs1 hP1 hD1 hS1 => ?_)
  rw [c1, c2, c3, cpy_zI] at hP1 hD1
  exact kk H1 locs1 ls (Rep_set t1 hq1 hM hP1 hD1) hS1 hl
theorem G_min {E : Cxt} {cc : ByteArray} {y : MethodName} {M : Mp} {k n pc idx : Nat} {lv : List (Nat × Value)} {st : List Value} {a b : Int} (hC : Cx E cc y) (w1 : Cond.methodLink y.cls idx Lib.Math.min.name ∈ TB) (w2 : Cond.static Lib.Math.min.name ∈ TB) (w3 : Cond.initialized "java/lang/Math" ∈ TB) (w4 : Cond.code Lib.Math.min.name Lib.Math.min.code 2 (some .int) ∈ TB) (ha9 : -2147483648 ≤ a ∧ a ≤ 2147483647) (hb9 : -2147483648 ≤ b ∧ b ≤ 2147483647) (hfr : 1 ≤ (eR E).frames) (hlo : (st.map fun v => v.category).sum + 13 ≤ (eR E).locals) (hk : k ≤ (eR E).cells) (hn : n ≤ (eR E).slots) (d : decode cc pc = .ok (.invokestatic idx, 3))
    (kk : G E M k n lv (vI (if b < a then b else a) :: st) (pc + 3)) : G E M k n lv (vI b :: vI a :: st) pc := by
  obtain ⟨p, l, e, R, s, m, args, below, meth, c, D, b0, nL, Q⟩ := E
  obtain ⟨hx, hb, hml, hown, hts, hKn, hb0, hlk, hmn⟩ := hC
  intro H locs ls hR hS hl
  refine va_mmin hx hb (by rw [hml]; exact hl.1.symm) hown (hts _ w1) (hts _ w2) (hts _ w3) (hts _ w4) hfr hlo hk hn d ?_
  have e : (if zI b < zI a then zI b else zI a) = zI (if b < a then b else a) := by
    by_cases h : b < a
    · rw [if_pos h, if_pos ((zI_lt hb9 ha9).mpr h)]
    · rw [if_neg h, if_neg (fun z => h ((zI_lt hb9 ha9).mp z))]
  rw [e]
  exact kk H locs ls hR hS hl
theorem G_max {E : Cxt} {cc : ByteArray} {y : MethodName} {M : Mp} {k n pc idx : Nat} {lv : List (Nat × Value)} {st : List Value} {a b : Int} (hC : Cx E cc y) (w1 : Cond.methodLink y.cls idx Lib.Math.max.name ∈ TB) (w2 : Cond.static Lib.Math.max.name ∈ TB) (w3 : Cond.initialized "java/lang/Math" ∈ TB) (w4 : Cond.code Lib.Math.max.name Lib.Math.max.code 2 (some .int) ∈ TB) (ha9 : -2147483648 ≤ a ∧ a ≤ 2147483647) (hb9 : -2147483648 ≤ b ∧ b ≤ 2147483647) (hfr : 1 ≤ (eR E).frames) (hlo : (st.map fun v => v.category).sum + 13 ≤ (eR E).locals) (hk : k ≤ (eR E).cells) (hn : n ≤ (eR E).slots) (d : decode cc pc = .ok (.invokestatic idx, 3))
    (kk : G E M k n lv (vI (if a < b then b else a) :: st) (pc + 3)) : G E M k n lv (vI b :: vI a :: st) pc := by
  obtain ⟨p, l, e, R, s, m, args, below, meth, c, D, b0, nL, Q⟩ := E
  obtain ⟨hx, hb, hml, hown, hts, hKn, hb0, hlk, hmn⟩ := hC
  intro H locs ls hR hS hl
  refine va_mmax hx hb (by rw [hml]; exact hl.1.symm) hown (hts _ w1) (hts _ w2) (hts _ w3) (hts _ w4) hfr hlo hk hn d ?_
  have e : (if zI a < zI b then zI b else zI a) = zI (if a < b then b else a) := by
    by_cases h : a < b
    · rw [if_pos h, if_pos ((zI_lt ha9 hb9).mpr h)]
    · rw [if_neg h, if_neg (fun z => h ((zI_lt ha9 hb9).mp z))]
  rw [e]
  exact kk H locs ls hR hS hl
theorem G_objInit {E : Cxt} {cc : ByteArray} {y : MethodName} {M : Mp} {k n pc idx a : Nat} {lv : List (Nat × Value)} {st : List Value} (hC : Cx E cc y) (w1 : Cond.methodLink y.cls idx Lib.objectInit ∈ TB) (w2 : Cond.instanceMethod Lib.objectInit ∈ TB) (w3 : Cond.code Lib.objectInit ⟨#[0xb1]⟩ 1 none ∈ TB) (hfr : 1 ≤ (eR E).frames) (hlo : (st.map fun v => v.category).sum + 12 ≤ (eR E).locals) (d : decode cc pc = .ok (.invokespecial idx, 3))
    (kk : G E M k n lv st (pc + 3)) : G E M k n lv (.ref a :: st) pc := by
  obtain ⟨p, l, e, R, s, m, args, below, meth, c, D, b0, nL, Q⟩ := E
  obtain ⟨hx, hb, hml, hown, hts, hKn, hb0, hlk, hmn⟩ := hC
  intro H locs ls hR hS hl
  have hlo9 : (st.map fun v => v.category).sum + 12 ≤ R.locals := hlo
  exact W.objInit hx hb hown (hts _ w1) (hts _ w2) (hts _ w3) rfl (by rw [hml]; exact hl.1) rfl d hfr (by show 2 * 0 + _ + 12 ≤ _; omega) (kk H locs ls hR hS hl)
theorem G_ldcS {E : Cxt} {cc : ByteArray} {y : MethodName} {M : Mp} {k n pc idx i : Nat} {tx : String} {lv : List (Nat × Value)} {st : List Value} (hC : Cx E cc y) (hq : (y.cls, idx, tx, i) ∈ refTX) (d : decode cc pc = .ok (.ldc idx, 2)) (kk : G E M k n lv (.ref ((eD E).2.2.1 i) :: st) (pc + 2)) : G E M k n lv st pc := by
  obtain ⟨p, l, e, R, s, m, args, below, meth, c, D, b0, nL, Q⟩ := E
  obtain ⟨hx, hb, hml, hown, hts, hKn, hb0, hlk, hmn⟩ := hC
  intro H locs ls hR hS hl
  exact va_ldcS hx hb hown (hKn.2.2.2.1 _ hq) d (kk H locs ls hR hS hl)
/-! ===== calls ===== -/
def IsObj (M : Mp) (b ci : Nat) : Prop := ∃ (t : Nat) (fs : List Value), M b = some (t, .inr (ci, fs))
theorem G_run {E : Cxt} {M : Mp} {k n pc mc ms : Nat} {lv : List (Nat × Value)} {st rest : List Value} {Post : Option Value → Mp → Prop} {a : Array Value}
    (hr : match E with | (p, l, e, R, s, m, args, below, meth, c, D, b0, nL, _) => ∀ (H : Heap) (locs : List Loc) (ls : Array Slot), Rep D b0 M H → va_S (fun q => b0 ≤ q) s.heap H locs → lv_has ls nL lv → va_Run p l e R s m args below meth c H locs k n mc ms (F0 m pc ls st) rest (Qc_of D b0 Post a) (fun q => b0 ≤ q))
    (kk : ∀ (r : Option Value) (M' : Mp), Post r M' → G E M' (k + mc) (n + ms) lv (r.toList ++ rest) (pc + 3)) : G E M k n lv st pc := by
  obtain ⟨p, l, e, R, s, m, args, below, meth, c, D, b0, nL, Q⟩ := E
  intro H locs ls hR hS hl T hT X
  obtain ⟨v, st₀, t, T', L, h0, X', hL, e1, e2, ⟨⟨r, M', hv, hp, hRep⟩, hz, hk⟩, st⟩ := hr H locs ls hR hS hl T hT X
  cases hv
  rw [h0] at hz hk
  have hR1 : Rep D b0 M' T'.heap := by rw [e1]; exact hRep
  have hS1 : va_S (fun q => b0 ≤ q) s.heap T'.heap (locs ++ L) := ⟨Nat.le_trans hS.1 (by rw [e1]; exact hz), fun q h1 h2 => by rw [e1, hk q (Nat.lt_of_lt_of_le h1 hS.1) h2]; exact hS.2.1 q h1 h2, fun q hq => by
      rcases List.mem_append.mp hq with h | h
      · exact hS.2.2 q h
      · exact hL q h⟩
  obtain ⟨t2, a1, b1⟩ := kk v M' hp T'.heap (locs ++ L) ls hR1 hS1 hl T' rfl X'
  exact ⟨t2, st t2 a1, b1⟩
/-- what a call needs of the callee's words, once for a method -/
def MW (y : MethodName) (cc : ByteArray) (nL : Nat) (ret : Option FieldType) (np : Nat) : Prop := Cond.code y cc nL ret ∈ TB ∧ Cond.initialized y.cls ∈ TB ∧ (y.cls ≠ "java/lang/invoke/MethodHandle" ∧ y.cls ≠ "java/lang/invoke/VarHandle" ∧ (parseMethodDescriptor y.desc).map (fun d => d.parameters.length) = some np) ∧ nL ≤ 21
theorem pre_blind {D : Dg} {b0 : Nat} {M : Mp} {av : List Value} : FrameBlind (Pc_of D b0 M av) := fun a U g mk q => by
  obtain ⟨q0, q1, qR, qK⟩ := q
  exact ⟨q0, q1, qR, Kn_same rfl rfl qK⟩
theorem callB_TB {R : Room} {s : State} {args : Array Value} {own : String} {idx d mc ms np : Nat} {y : MethodName} {cc : ByteArray} {nL : Nat} {ret : Option FieldType} (hts : ∀ w ∈ TB, w.before args s = true) (hW : MW y cc nL ret np) (w1 : Cond.methodLink own idx y ∈ TB) (hd : d + 1 ≤ R.frames) (hl : 40 * (d + 1) ≤ R.locals) :
    CallB R s args own idx y cc nL ret (Cond.code y cc nL ret :: TB) (rmD d mc ms) mc ms np := by
  obtain ⟨h1, h2, h3, h4⟩ := hW
  refine callB_of np hts (fun w hw => ?_) rfl rfl rfl (hts _ h2) (hts _ w1) h3 ⟨hd, by show 8 + (nL + 11) + 40 * d ≤ _; omega⟩
  rcases List.mem_cons.mp hw with rfl | hw
  · exact TB_good _ h1
  · exact TB_good _ hw
theorem G_callS {E : Cxt} {cc cc' : ByteArray} {y y' : MethodName} {M : Mp} {k n pc idx d0 mc ms nL' np : Nat} {ret : Option FieldType} {lv : List (Nat × Value)} {st av rest : List Value} {Post : Option Value → Mp → Prop} (hC : Cx E cc y) (hM : Ok (eL E) (eD E) (eB E) d0 y' cc' nL' ret M av mc ms Post) (hW : MW y' cc' nL' ret np) (w1 : Cond.methodLink y.cls idx y' ∈ TB) (w2 : Cond.static y' ∈ TB) (hd : d0 + 1 ≤ (eR E).frames) (hlo : 40 * (d0 + 1) ≤ (eR E).locals) (hnp : av.length = np) (hst : st = av.reverse ++ rest) (hrm : (rest.map fun v => v.category).sum ≤ 8) (hk : k + mc ≤ (eR E).cells ∧ n + ms ≤ (eR E).slots) (d : decode cc pc = .ok (.invokestatic idx, 3))
    (kk : ∀ (r : Option Value) (M' : Mp), Post r M' → G E M' (k + mc) (n + ms) lv (r.toList ++ rest) (pc + 3)) : G E M k n lv st pc := by
  refine G_run (a := av.toArray) (rest := rest) ?_ kk
  obtain ⟨p, l, e, R, s, m, args, below, meth, c, D, b0, nL, Q⟩ := E
  obtain ⟨hx, hb, hml, hown, hts, hKn, hb0, hlk, hmn⟩ := hC
  intro H locs ls hR hS hl
  exact va_runS (As := av) (rest := rest) ⟨hx, hb, hml, hown, hts⟩ hM ⟨callB_TB hts hW w1 hd hlo, hts _ w2⟩ ⟨pre_blind, fun U hU hWm => ⟨rfl, by rw [hU]; exact Nat.le_trans hb0 hS.1, by rw [hU]; exact hR, Kn_moved (locs := locs) hKn hWm (by rw [hU]; exact hS)⟩⟩ rfl hnp hl.1 hst (lv_room hrm) d hk
theorem G_callV {E : Cxt} {cc cc' : ByteArray} {y y' : MethodName} {M : Mp} {k n pc idx d0 mc ms nL' np b ci : Nat} {ret : Option FieldType} {lv : List (Nat × Value)} {st As rest : List Value} {r0 : vw_C} {Post : Option Value → Mp → Prop} (hC : Cx E cc y) (hM : Ok (eL E) (eD E) (eB E) d0 y' cc' nL' ret M (.ref b :: As) mc ms Post) (hW : MW y' cc' nL' ret np) (w1 : Cond.methodLink y.cls idx y' ∈ TB) (w2 : Cond.instanceMethod y' ∈ TB) (w3 : Cond.selects y'.cls y' y' ∈ TB) (hb9 : IsObj M b ci) (hc : vwCl[ci]? = some r0) (hcl : r0.1 = y'.cls) (hd : d0 + 1 ≤ (eR E).frames) (hlo : 40 * (d0 + 1) ≤ (eR E).locals) (hnp : As.length = np) (hst : st = As.reverse ++ .ref b :: rest) (hrm : (rest.map fun v => v.category).sum ≤ 8) (hk : k + mc ≤ (eR E).cells ∧ n + ms ≤ (eR E).slots) (d : decode cc pc = .ok (.invokevirtual idx, 3))
    (kk : ∀ (r : Option Value) (M' : Mp), Post r M' → G E M' (k + mc) (n + ms) lv (r.toList ++ rest) (pc + 3)) : G E M k n lv st pc := by
  refine G_run (a := (Value.ref b :: As).toArray) (rest := rest) ?_ kk
  obtain ⟨p, l, e, R, s, m, args, below, meth, c, D, b0, nL, Q⟩ := E
  obtain ⟨hx, hb, hml, hown, hts, hKn, hb0, hlk, hmn⟩ := hC
  intro H locs ls hR hS hl
  have hrec : ∃ cell : Cell, H[b]? = some cell ∧ cell.vm.isStatics = false ∧ s.vm.findClass y'.cls = some cell.cls := by
    obtain ⟨ws, hP, hD, hMm⟩ := hR
    obtain ⟨t, fs, hb9⟩ := hb9
    obtain ⟨q0, hq⟩ := hMm b _ hb9
    rw [← hcl]
    exact va_recv hKn.1 hP hc hq
  exact va_runV (C := y'.cls) (As := As) (rest := rest) ⟨hx, hb, hml, hown, hts⟩ hM ⟨callB_TB hts hW w1 hd hlo, hts _ w2, hts _ w3⟩ ⟨pre_blind, hrec, fun U hU hWm => ⟨rfl, by rw [hU]; exact Nat.le_trans hb0 hS.1, by rw [hU]; exact hR, Kn_moved (locs := locs) hKn hWm (by rw [hU]; exact hS)⟩⟩ rfl hnp hl.1 hst (lv_room hrm) d hk
theorem G_callI {E : Cxt} {cc cc' : ByteArray} {y y' : MethodName} {M : Mp} {k n pc idx d0 mc ms nL' np b : Nat} {lv : List (Nat × Value)} {st As rest : List Value} {Post : Option Value → Mp → Prop} (hC : Cx E cc y) (hM : Ok (eL E) (eD E) (eB E) d0 y' cc' nL' none M (.ref b :: As) mc ms Post) (hW : MW y' cc' nL' none np) (w1 : Cond.methodLink y.cls idx y' ∈ TB) (w2 : Cond.instanceMethod y' ∈ TB) (hy9 : y'.name = "<init>") (hd : d0 + 1 ≤ (eR E).frames) (hlo : 40 * (d0 + 1) ≤ (eR E).locals) (hnp : As.length = np) (hst : st = As.reverse ++ .ref b :: rest) (hrm : (rest.map fun v => v.category).sum ≤ 8) (hk : k + mc ≤ (eR E).cells ∧ n + ms ≤ (eR E).slots) (d : decode cc pc = .ok (.invokespecial idx, 3))
    (kk : ∀ (r : Option Value) (M' : Mp), Post r M' → G E M' (k + mc) (n + ms) lv (r.toList ++ rest) (pc + 3)) : G E M k n lv st pc := by
  refine G_run (a := (Value.ref b :: As).toArray) (rest := rest) ?_ kk
  obtain ⟨p, l, e, R, s, m, args, below, meth, c, D, b0, nL, Q⟩ := E
  obtain ⟨hx, hb, hml, hown, hts, hKn, hb0, hlk, hmn⟩ := hC
  intro H locs ls hR hS hl
  exact va_runI (As := As) (rest := rest) ⟨hx, hb, hml, hown, hts⟩ hM ⟨callB_TB hts hW w1 hd hlo, hy9, hts _ w2⟩ ⟨pre_blind, fun U hU hWm => ⟨rfl, by rw [hU]; exact Nat.le_trans hb0 hS.1, by rw [hU]; exact hR, Kn_moved (locs := locs) hKn hWm (by rw [hU]; exact hS)⟩⟩ rfl hnp hl.1 hst (lv_room hrm) d hk
/-! ===== calls of methods that change nothing ===== -/
def OkP (l : Launch) (D : Dg) (b0 d : Nat) (y : MethodName) (cc : ByteArray) (nL : Nat) (ret : Option FieldType) (M : Mp) (av : List Value) (v : Value) : Prop := Ok l D b0 d y cc nL ret M av 0 0 (fun r M' => r = some v ∧ M' = M)
theorem G_pureS {E : Cxt} {cc cc' : ByteArray} {y y' : MethodName} {M : Mp} {k n pc idx d0 nL' np : Nat} {ret : Option FieldType} {lv : List (Nat × Value)} {st av rest : List Value} {v : Value} (hC : Cx E cc y) (hM : OkP (eL E) (eD E) (eB E) d0 y' cc' nL' ret M av v) (hW : MW y' cc' nL' ret np) (w1 : Cond.methodLink y.cls idx y' ∈ TB) (w2 : Cond.static y' ∈ TB) (hd : d0 + 1 ≤ (eR E).frames) (hlo : 40 * (d0 + 1) ≤ (eR E).locals) (hnp : av.length = np) (hst : st = av.reverse ++ rest) (hrm : (rest.map fun v => v.category).sum ≤ 8) (hk : k ≤ (eR E).cells ∧ n ≤ (eR E).slots) (d : decode cc pc = .ok (.invokestatic idx, 3))
    (kk : G E M k n lv (v :: rest) (pc + 3)) : G E M k n lv st pc :=
  G_callS hC hM hW w1 w2 hd hlo hnp hst hrm hk d (fun r M' hp => by obtain ⟨rfl, rfl⟩ := hp; exact kk)
theorem G_pureV {E : Cxt} {cc cc' : ByteArray} {y y' : MethodName} {M : Mp} {k n pc idx d0 nL' np b ci : Nat} {ret : Option FieldType} {lv : List (Nat × Value)} {st As rest : List Value} {r0 : vw_C} {v : Value} (hC : Cx E cc y) (hM : OkP (eL E) (eD E) (eB E) d0 y' cc' nL' ret M (.ref b :: As) v) (hW : MW y' cc' nL' ret np) (w1 : Cond.methodLink y.cls idx y' ∈ TB) (w2 : Cond.instanceMethod y' ∈ TB) (w3 : Cond.selects y'.cls y' y' ∈ TB) (hb9 : IsObj M b ci) (hc : vwCl[ci]? = some r0) (hcl : r0.1 = y'.cls) (hd : d0 + 1 ≤ (eR E).frames) (hlo : 40 * (d0 + 1) ≤ (eR E).locals) (hnp : As.length = np) (hst : st = As.reverse ++ .ref b :: rest) (hrm : (rest.map fun v => v.category).sum ≤ 8) (hk : k ≤ (eR E).cells ∧ n ≤ (eR E).slots) (d : decode cc pc = .ok (.invokevirtual idx, 3))
    (kk : G E M k n lv (v :: rest) (pc + 3)) : G E M k n lv st pc :=
  G_callV hC hM hW w1 w2 w3 hb9 hc hcl hd hlo hnp hst hrm hk d (fun r M' hp => by obtain ⟨rfl, rfl⟩ := hp; exact kk)
/-- the top of the stack by another name -/
theorem G_top {E : Cxt} {M : Mp} {k n pc : Nat} {lv : List (Nat × Value)} {st : List Value} {a b : Int} (h : a = b) (kk : G E M k n lv (vI b :: st) pc) : G E M k n lv (vI a :: st) pc := by
  rw [h]
  exact kk
theorem nar_b (b : Bool) : narrow .boolean (vI (b2i b)) = vI (b2i b) := by cases b <;> decide +kernel
end
section
/-! WORLDS BY TAGS: what a method leaves as it was, rows of bytes, and the rows of G in the form in which walks use them -/
/-- every cell whose tag isn't in T is as it was -/
def Fr (T : List Nat) (M M' : Mp) : Prop := ∀ (q t : Nat) (c : va_E), M q = some (t, c) → t ∉ T → M' q = some (t, c)
theorem Fr.rf {T : List Nat} {M : Mp} : Fr T M M := fun _ _ _ h _ => h
theorem Fr.tr {T1 T2 : List Nat} {M1 M2 M3 : Mp} (h1 : Fr T1 M1 M2) (h2 : Fr T2 M2 M3) : Fr (T1 ++ T2) M1 M3 := fun q t c h hn => h2 q t c (h1 q t c h (fun z => hn (List.mem_append_left _ z))) (fun z => hn (List.mem_append_right _ z))
theorem Fr.tr' {T T1 T2 : List Nat} {M1 M2 M3 : Mp} (h1 : Fr T1 M1 M2) (h2 : Fr T2 M2 M3) (s1 : ∀ t ∈ T1, t ∈ T) (s2 : ∀ t ∈ T2, t ∈ T) : Fr T M1 M3 := fun q t c h hn => h2 q t c (h1 q t c h (fun z => hn (s1 t z))) (fun z => hn (s2 t z))
theorem Fr.up {T T1 : List Nat} {M1 M2 : Mp} (h1 : Fr T1 M1 M2) (s1 : ∀ t ∈ T1, t ∈ T) : Fr T M1 M2 := fun q t c h hn => h1 q t c h (fun z => hn (s1 t z))
theorem Fr.at {T : List Nat} {M M' : Mp} {q t : Nat} {c : va_E} (h : Fr T M M') (hc : M q = some (t, c)) (hn : t ∉ T) : M' q = some (t, c) := h q t c hc hn
theorem Fr_set {M : Mp} {a t : Nat} {c0 c1 : va_E} (h : M a = some (t, c0)) : Fr [t] M (mset M a (t, c1)) := fun q u c hq hn => by
  have hne : q ≠ a := fun z => by
    subst z
    rw [h] at hq
    cases hq
    exact hn List.mem_cons_self
  rw [mset_ne hne]
  exact hq
theorem Fr_new {M : Mp} {a : Nat} {c1 : Cel} (h : M a = none) : Fr [] M (mset M a c1) := fun q u c hq _ => by
  have hne : q ≠ a := fun z => by
    subst z
    rw [h] at hq
    cases hq
  rw [mset_ne hne]
  exact hq
/-! rows of bytes -/
def gx (xs : List Int) (i : Int) : Int := xs.getD i.toNat 0
def Row (D : Dg) (M : Mp) (r t len : Nat) (xs : List Int) : Prop := ∃ g : Nat → Int, M r = some (t, arB D len g) ∧ xs.length ≤ len ∧ len ≤ 20000 ∧ (∀ j : Nat, -128 ≤ g j ∧ g j ≤ 127) ∧ ∀ j : Nat, j < xs.length → g j = xs.getD j 0
theorem Row.fr {D : Dg} {M M' : Mp} {r t len : Nat} {xs : List Int} {T : List Nat} (h : Row D M r t len xs) (hf : Fr T M M') (hn : t ∉ T) : Row D M' r t len xs := by
  obtain ⟨g, h1, h2⟩ := h
  exact ⟨g, hf.at h1 hn, h2⟩
theorem Row.len {D : Dg} {M : Mp} {r t len : Nat} {xs : List Int} (h : Row D M r t len xs) : xs.length ≤ len ∧ len ≤ 20000 := by
  obtain ⟨g, h1, h2, h3, -⟩ := h
  exact ⟨h2, h3⟩
theorem Row.rng {D : Dg} {M : Mp} {r t len : Nat} {xs : List Int} (h : Row D M r t len xs) (i : Int) : -128 ≤ gx xs i ∧ gx xs i ≤ 127 := by
  obtain ⟨g, h1, h2, h3, h4, h5⟩ := h
  unfold gx
  by_cases hi : i.toNat < xs.length
  · rw [← h5 _ hi]
    exact h4 _
  · rw [gD_ge (by omega)]
    omega
/-- all bytes -/
def byR (xs : List Int) : Prop := ∀ i : Int, -128 ≤ gx xs i ∧ gx xs i ≤ 127
theorem G_baldR {E : Cxt} {cc : ByteArray} {y : MethodName} {M : Mp} {k n pc a t len : Nat} {lv : List (Nat × Value)} {st : List Value} {xs : List Int} {i : Int} (hC : Cx E cc y) (ha : Row (eD E) M a t len xs) (hi : 0 ≤ i ∧ i < xs.length) (d : decode cc pc = .ok (.baload, 1)) (kk : G E M k n lv (vI (gx xs i) :: st) (pc + 1)) : G E M k n lv (vI i :: .ref a :: st) pc := by
  obtain ⟨g, h1, h2, h3, h4, h5⟩ := ha
  refine G_bald hC h1 (by omega) (by omega) d ?_
  rw [h5 _ (by omega)]
  exact kk
theorem G_alenR {E : Cxt} {cc : ByteArray} {y : MethodName} {M : Mp} {k n pc a t len : Nat} {lv : List (Nat × Value)} {st : List Value} {xs : List Int} (hC : Cx E cc y) (ha : Row (eD E) M a t len xs) (d : decode cc pc = .ok (.arraylength, 1)) (kk : G E M k n lv (vI len :: st) (pc + 1)) : G E M k n lv (.ref a :: st) pc := by
  obtain ⟨g, h1, h2⟩ := ha
  exact G_alen (q := 0) hC h1 rfl d kk
/-- a byte put behind the last one -/
theorem G_bastR {E : Cxt} {cc : ByteArray} {y : MethodName} {M : Mp} {k n pc a t len : Nat} {lv : List (Nat × Value)} {st : List Value} {xs : List Int} {i x : Int} (hC : Cx E cc y) (ha : Row (eD E) M a t len xs) (hi : i = xs.length) (hi2 : i < len) (hx : -128 ≤ x ∧ x ≤ 127) (d : decode cc pc = .ok (.bastore, 1)) (kk : ∀ M' : Mp, Row (eD E) M' a t len (xs ++ [x]) → Fr [t] M M' → G E M' k n lv st (pc + 1)) : G E M k n lv (vI x :: vI i :: .ref a :: st) pc := by
  obtain ⟨g, h1, h2, h3, h4, h5⟩ := ha
  have ei : i.toNat = xs.length := by omega
  refine G_bast hC h1 (by omega) (by omega) hx d (kk _ ⟨_, mset_self _ _ _, ?_, h3, ?_, ?_⟩ (Fr_set h1))
  · rw [List.length_append, List.length_singleton]
    omega
  · intro j
    unfold updZ
    split
    · exact hx
    · exact h4 j
  · intro j hj
    rw [List.length_append, List.length_singleton] at hj
    unfold updZ
    rw [ei]
    by_cases hjj : j = xs.length
    · subst hjj
      simp
    · rw [if_neg hjj, h5 j (by omega)]
      simp only [List.getD_eq_getElem?_getD]
      rw [List.getElem?_append_left (show j < xs.length by omega)]
theorem G_iand255 {E : Cxt} {cc : ByteArray} {y : MethodName} {M : Mp} {k n pc : Nat} {lv : List (Nat × Value)} {st : List Value} {a : Int} (hC : Cx E cc y) (ha : -2147483648 ≤ a ∧ a ≤ 2147483647) (d : decode cc pc = .ok (.iand, 1)) (kk : G E M k n lv (vI (a % 256) :: st) (pc + 1)) : G E M k n lv (vI 255 :: vI a :: st) pc := G_iand hC (zI_and255' ha) d kk
theorem G_i2bR {E : Cxt} {cc : ByteArray} {y : MethodName} {M : Mp} {k n pc : Nat} {lv : List (Nat × Value)} {st : List Value} {a : Int} (hC : Cx E cc y) (ha : -2147483648 ≤ a ∧ a ≤ 2147483647) (d : decode cc pc = .ok (.i2b, 1)) (kk : G E M k n lv (vI (sgb a) :: st) (pc + 1)) : G E M k n lv (vI a :: st) pc := G_i2b hC (zI_i2b ha) d kk
/-! writing fields -/
theorem G_putX {E : Cxt} {cc : ByteArray} {y : MethodName} {M : Mp} {k n pc idx ci kf a t : Nat} {lv : List (Nat × Value)} {st fs fs' : List Value} {v : Value} {tys : Nat → FieldType} (hC : Cx E cc y) (hF : FL y.cls idx ci kf) (hT : FT ci tys) (hW : FW ci kf) (ha : M a = some (t, .inr (ci, fs))) (hn : narrow (tys kf) v = v) (hfit : fits (tys kf) v = true) (hlen : kf < fs.length) (hfs : fs.set kf v = fs') (d : decode cc pc = .ok (.putfield idx, 3)) (kk : ∀ M' : Mp, M' a = some (t, .inr (ci, fs')) → Fr [t] M M' → G E M' k n lv st (pc + 3)) : G E M k n lv (v :: .ref a :: st) pc := by
  subst hfs
  exact G_put hC hF hT hW ha hn hfit hlen d (kk _ (mset_self _ _ _) (Fr_set ha))
theorem G_putFX {E : Cxt} {cc : ByteArray} {y : MethodName} {M : Mp} {k n pc idx ci kf a t : Nat} {lv : List (Nat × Value)} {st fs fs' : List Value} {v : Value} {tys : Nat → FieldType} (hC : Cx E cc y) (hF : FL y.cls idx ci kf) (hT : FT ci tys) (hW : FF y.cls ci kf) (hy : y.name = "<init>") (ha : M a = some (t, .inr (ci, fs))) (hn : narrow (tys kf) v = v) (hfit : fits (tys kf) v = true) (hlen : kf < fs.length) (hfs : fs.set kf v = fs') (d : decode cc pc = .ok (.putfield idx, 3)) (kk : ∀ M' : Mp, M' a = some (t, .inr (ci, fs')) → Fr [t] M M' → G E M' k n lv st (pc + 3)) : G E M k n lv (v :: .ref a :: st) pc := by
  subst hfs
  exact G_putF hC hF hT hW hy ha hn hfit hlen d (kk _ (mset_self _ _ _) (Fr_set ha))
/-! ends of methods that change nothing -/
theorem G_iretP {E : Cxt} {cc : ByteArray} {y : MethodName} {M : Mp} {lv : List (Nat × Value)} {pc : Nat} {x X : Int} (hC : Cx E cc y) (hQ : Cr E (some .int) 0 0 (fun r M' => r = some (vI X) ∧ M' = M)) (d : decode cc pc = .ok (.ireturn, 1)) (he : x = X) : G E M 0 0 lv [vI x] pc := G_ireturn hC hQ (Nat.le_refl _) (Nat.le_refl _) d ⟨by rw [he], rfl⟩
theorem G_zretP {E : Cxt} {cc : ByteArray} {y : MethodName} {M : Mp} {lv : List (Nat × Value)} {pc : Nat} {x : Int} {B : Bool} (hC : Cx E cc y) (hQ : Cr E (some .boolean) 0 0 (fun r M' => r = some (vI (b2i B)) ∧ M' = M)) (d : decode cc pc = .ok (.ireturn, 1)) (he : x = b2i B) : G E M 0 0 lv [vI x] pc := by
  subst he
  exact G_zreturn hC hQ (Nat.le_refl _) (Nat.le_refl _) (nar_b B) d ⟨rfl, rfl⟩
theorem G_aretP {E : Cxt} {cc : ByteArray} {y : MethodName} {M : Mp} {lv : List (Nat × Value)} {pc a : Nat} {c : String} (hC : Cx E cc y) (hQ : Cr E (some (.object c)) 0 0 (fun r M' => r = some (.ref a) ∧ M' = M)) (d : decode cc pc = .ok (.areturn, 1)) : G E M 0 0 lv [.ref a] pc := G_areturn hC hQ (Or.inl ⟨_, rfl⟩) (Or.inr ⟨_, rfl⟩) (Nat.le_refl _) (Nat.le_refl _) d ⟨rfl, rfl⟩
/-! ends of methods that change something -/
theorem G_iretX {E : Cxt} {cc : ByteArray} {y : MethodName} {M : Mp} {lv : List (Nat × Value)} {pc k n mc ms : Nat} {x : Int} {Post : Option Value → Mp → Prop} (hC : Cx E cc y) (hQ : Cr E (some .int) mc ms Post) (hk : k ≤ mc) (hn : n ≤ ms) (d : decode cc pc = .ok (.ireturn, 1)) (hp : Post (some (vI x)) M) : G E M k n lv [vI x] pc := G_ireturn hC hQ hk hn d hp
theorem G_zretX {E : Cxt} {cc : ByteArray} {y : MethodName} {M : Mp} {lv : List (Nat × Value)} {pc k n mc ms : Nat} {x : Int} (B : Bool) {Post : Option Value → Mp → Prop} (hC : Cx E cc y) (hQ : Cr E (some .boolean) mc ms Post) (hk : k ≤ mc) (hn : n ≤ ms) (d : decode cc pc = .ok (.ireturn, 1)) (he : x = b2i B) (hp : Post (some (vI (b2i B))) M) : G E M k n lv [vI x] pc := by
  subst he
  exact G_zreturn hC hQ hk hn (nar_b B) d hp
/-! calls -/
def CV (own : String) (idx : Nat) (y : MethodName) (cc : ByteArray) (nL : Nat) (ret : Option FieldType) (np ci : Nat) : Prop := MW y cc nL ret np ∧ Cond.methodLink own idx y ∈ TB ∧ Cond.instanceMethod y ∈ TB ∧ Cond.selects y.cls y y ∈ TB ∧ ∃ r0 : vw_C, vwCl[ci]? = some r0 ∧ r0.1 = y.cls
def CS (own : String) (idx : Nat) (y : MethodName) (cc : ByteArray) (nL : Nat) (ret : Option FieldType) (np : Nat) : Prop := MW y cc nL ret np ∧ Cond.methodLink own idx y ∈ TB ∧ Cond.static y ∈ TB
def CI (own : String) (idx : Nat) (y : MethodName) (cc : ByteArray) (nL np : Nat) : Prop := MW y cc nL none np ∧ Cond.methodLink own idx y ∈ TB ∧ Cond.instanceMethod y ∈ TB ∧ y.name = "<init>"
theorem G_xV {E : Cxt} {cc cc' : ByteArray} {y y' : MethodName} {M : Mp} {k n pc idx d0 dE mcE msE mc ms nL' np b ci : Nat} {ret : Option FieldType} {lv : List (Nat × Value)} {st As rest : List Value} {Post : Option Value → Mp → Prop} (hC : Cx E cc y) (hR : eR E = rmD dE mcE msE) (hM : Ok (eL E) (eD E) (eB E) d0 y' cc' nL' ret M (.ref b :: As) mc ms Post) (hW : CV y.cls idx y' cc' nL' ret np ci) (hb9 : IsObj M b ci) (hd : d0 + 1 ≤ dE) (hk : k + mc ≤ mcE) (hn : n + ms ≤ msE) (hnp : As.length = np) (hst : st = As.reverse ++ .ref b :: rest) (hrm : (rest.map fun v => v.category).sum ≤ 8) (d : decode cc pc = .ok (.invokevirtual idx, 3))
    (kk : ∀ (r : Option Value) (M' : Mp), Post r M' → G E M' (k + mc) (n + ms) lv (r.toList ++ rest) (pc + 3)) : G E M k n lv st pc := by
  obtain ⟨w0, w1, w2, w3, r0, w4, w5⟩ := hW
  refine G_callV hC hM w0 w1 w2 w3 hb9 w4 w5 ?_ ?_ hnp hst hrm ?_ d kk
  · rw [hR]; exact hd
  · rw [hR]; show 40 * (d0 + 1) ≤ 40 * dE; omega
  · rw [hR]; exact ⟨hk, hn⟩
theorem G_xS {E : Cxt} {cc cc' : ByteArray} {y y' : MethodName} {M : Mp} {k n pc idx d0 dE mcE msE mc ms nL' np : Nat} {ret : Option FieldType} {lv : List (Nat × Value)} {st av rest : List Value} {Post : Option Value → Mp → Prop} (hC : Cx E cc y) (hR : eR E = rmD dE mcE msE) (hM : Ok (eL E) (eD E) (eB E) d0 y' cc' nL' ret M av mc ms Post) (hW : CS y.cls idx y' cc' nL' ret np) (hd : d0 + 1 ≤ dE) (hk : k + mc ≤ mcE) (hn : n + ms ≤ msE) (hnp : av.length = np) (hst : st = av.reverse ++ rest) (hrm : (rest.map fun v => v.category).sum ≤ 8) (d : decode cc pc = .ok (.invokestatic idx, 3))
    (kk : ∀ (r : Option Value) (M' : Mp), Post r M' → G E M' (k + mc) (n + ms) lv (r.toList ++ rest) (pc + 3)) : G E M k n lv st pc := by
  obtain ⟨w0, w1, w2⟩ := hW
  refine G_callS hC hM w0 w1 w2 ?_ ?_ hnp hst hrm ?_ d kk
  · rw [hR]; exact hd
  · rw [hR]; show 40 * (d0 + 1) ≤ 40 * dE; omega
  · rw [hR]; exact ⟨hk, hn⟩
theorem G_xI {E : Cxt} {cc cc' : ByteArray} {y y' : MethodName} {M : Mp} {k n pc idx d0 dE mcE msE mc ms nL' np b : Nat} {lv : List (Nat × Value)} {st As rest : List Value} {Post : Option Value → Mp → Prop} (hC : Cx E cc y) (hR : eR E = rmD dE mcE msE) (hM : Ok (eL E) (eD E) (eB E) d0 y' cc' nL' none M (.ref b :: As) mc ms Post) (hW : CI y.cls idx y' cc' nL' np) (hd : d0 + 1 ≤ dE) (hk : k + mc ≤ mcE) (hn : n + ms ≤ msE) (hnp : As.length = np) (hst : st = As.reverse ++ .ref b :: rest) (hrm : (rest.map fun v => v.category).sum ≤ 8) (d : decode cc pc = .ok (.invokespecial idx, 3))
    (kk : ∀ (r : Option Value) (M' : Mp), Post r M' → G E M' (k + mc) (n + ms) lv (r.toList ++ rest) (pc + 3)) : G E M k n lv st pc := by
  obtain ⟨w0, w1, w2, w3⟩ := hW
  refine G_callI hC hM w0 w1 w2 w3 ?_ ?_ hnp hst hrm ?_ d kk
  · rw [hR]; exact hd
  · rw [hR]; show 40 * (d0 + 1) ≤ 40 * dE; omega
  · rw [hR]; exact ⟨hk, hn⟩
theorem G_pV {E : Cxt} {cc cc' : ByteArray} {y y' : MethodName} {M : Mp} {k n pc idx d0 dE mcE msE nL' np b ci : Nat} {ret : Option FieldType} {lv : List (Nat × Value)} {st As rest : List Value} {v : Value} (hC : Cx E cc y) (hR : eR E = rmD dE mcE msE) (hM : OkP (eL E) (eD E) (eB E) d0 y' cc' nL' ret M (.ref b :: As) v) (hW : CV y.cls idx y' cc' nL' ret np ci) (hb9 : IsObj M b ci) (hd : d0 + 1 ≤ dE) (hk : k ≤ mcE) (hn : n ≤ msE) (hnp : As.length = np) (hst : st = As.reverse ++ .ref b :: rest) (hrm : (rest.map fun v => v.category).sum ≤ 8) (d : decode cc pc = .ok (.invokevirtual idx, 3))
    (kk : G E M k n lv (v :: rest) (pc + 3)) : G E M k n lv st pc :=
  G_xV hC hR hM hW hb9 hd hk hn hnp hst hrm d (fun r M' hp => by obtain ⟨rfl, rfl⟩ := hp; exact kk)
theorem G_pS {E : Cxt} {cc cc' : ByteArray} {y y' : MethodName} {M : Mp} {k n pc idx d0 dE mcE msE nL' np : Nat} {ret : Option FieldType} {lv : List (Nat × Value)} {st av rest : List Value} {v : Value} (hC : Cx E cc y) (hR : eR E = rmD dE mcE msE) (hM : OkP (eL E) (eD E) (eB E) d0 y' cc' nL' ret M av v) (hW : CS y.cls idx y' cc' nL' ret np) (hd : d0 + 1 ≤ dE) (hk : k ≤ mcE) (hn : n ≤ msE) (hnp : av.length = np) (hst : st = av.reverse ++ rest) (hrm : (rest.map fun v => v.category).sum ≤ 8) (d : decode cc pc = .ok (.invokestatic idx, 3))
    (kk : G E M k n lv (v :: rest) (pc + 3)) : G E M k n lv st pc :=
  G_xS hC hR hM hW hd hk hn hnp hst hrm d (fun r M' hp => by obtain ⟨rfl, rfl⟩ := hp; exact kk)
def OkV (l : Launch) (D : Dg) (b0 d : Nat) (y : MethodName) (cc : ByteArray) (nL : Nat) (ret : Option FieldType) (M : Mp) (av : List Value) : Prop := Ok l D b0 d y cc nL ret M av 0 0 (fun r M' => r = none ∧ M' = M)
theorem G_vV {E : Cxt} {cc cc' : ByteArray} {y y' : MethodName} {M : Mp} {k n pc idx d0 dE mcE msE nL' np b ci : Nat} {ret : Option FieldType} {lv : List (Nat × Value)} {st As rest : List Value} (hC : Cx E cc y) (hR : eR E = rmD dE mcE msE) (hM : OkV (eL E) (eD E) (eB E) d0 y' cc' nL' ret M (.ref b :: As)) (hW : CV y.cls idx y' cc' nL' ret np ci) (hb9 : IsObj M b ci) (hd : d0 + 1 ≤ dE) (hk : k ≤ mcE) (hn : n ≤ msE) (hnp : As.length = np) (hst : st = As.reverse ++ .ref b :: rest) (hrm : (rest.map fun v => v.category).sum ≤ 8) (d : decode cc pc = .ok (.invokevirtual idx, 3))
    (kk : G E M k n lv rest (pc + 3)) : G E M k n lv st pc :=
  G_xV hC hR hM hW hb9 hd hk hn hnp hst hrm d (fun r M' hp => by obtain ⟨rfl, rfl⟩ := hp; exact kk)
theorem G_vS {E : Cxt} {cc cc' : ByteArray} {y y' : MethodName} {M : Mp} {k n pc idx d0 dE mcE msE nL' np : Nat} {ret : Option FieldType} {lv : List (Nat × Value)} {st av rest : List Value} (hC : Cx E cc y) (hR : eR E = rmD dE mcE msE) (hM : OkV (eL E) (eD E) (eB E) d0 y' cc' nL' ret M av) (hW : CS y.cls idx y' cc' nL' ret np) (hd : d0 + 1 ≤ dE) (hk : k ≤ mcE) (hn : n ≤ msE) (hnp : av.length = np) (hst : st = av.reverse ++ rest) (hrm : (rest.map fun v => v.category).sum ≤ 8) (d : decode cc pc = .ok (.invokestatic idx, 3))
    (kk : G E M k n lv rest (pc + 3)) : G E M k n lv st pc :=
  G_xS hC hR hM hW hd hk hn hnp hst hrm d (fun r M' hp => by obtain ⟨rfl, rfl⟩ := hp; exact kk)
theorem G_vretP {E : Cxt} {cc : ByteArray} {y : MethodName} {M : Mp} {lv : List (Nat × Value)} {pc : Nat} (hC : Cx E cc y) (hQ : Cr E none 0 0 (fun r M' => r = none ∧ M' = M)) (d : decode cc pc = .ok (.return_, 1)) : G E M 0 0 lv [] pc := G_return hC hQ (Nat.le_refl _) (Nat.le_refl _) d ⟨rfl, rfl⟩
/-! Bytes -/
def IsB (D : Dg) (M : Mp) (a t : Nat) (lim : Int) (b : Bv) : Prop := ∃ r : Nat, M a = some (t, .inr (cBy, [vI lim, .ref r, vI (b.2.length : Int)])) ∧ Row D M r (t + 1) b.1 b.2 ∧ (b.1 : Int) ≤ lim ∧ lim ≤ 20000
theorem IsB.fr {D : Dg} {M M' : Mp} {a t : Nat} {lim : Int} {b : Bv} {T : List Nat} (h : IsB D M a t lim b) (hf : Fr T M M') (hn : t ∉ T) (hn2 : t + 1 ∉ T) : IsB D M' a t lim b := by
  obtain ⟨r, h1, h2, h3⟩ := h
  exact ⟨r, hf.at h1 hn, h2.fr hf hn2, h3⟩
theorem IsB.obj {D : Dg} {M : Mp} {a t : Nat} {lim : Int} {b : Bv} (h : IsB D M a t lim b) : IsObj M a cBy := by
  obtain ⟨r, h1, -⟩ := h
  exact ⟨_, _, h1⟩
theorem IsB.len {D : Dg} {M : Mp} {a t : Nat} {lim : Int} {b : Bv} (h : IsB D M a t lim b) : b.2.length ≤ b.1 ∧ (b.1 : Int) ≤ lim ∧ lim ≤ 20000 := by
  obtain ⟨r, h1, h2, h3⟩ := h
  exact ⟨h2.len.1, h3⟩
theorem IsB.rng {D : Dg} {M : Mp} {a t : Nat} {lim : Int} {b : Bv} (h : IsB D M a t lim b) (i : Int) : -128 ≤ gx b.2 i ∧ gx b.2 i ≤ 127 := by
  obtain ⟨r, h1, h2, h3⟩ := h
  exact h2.rng i
theorem IsB.at_rng {D : Dg} {M : Mp} {a t : Nat} {lim : Int} {b : Bv} (_ : IsB D M a t lim b) (i : Int) : -1 ≤ atS b.2 i ∧ atS b.2 i ≤ 255 := by
  unfold atS
  split <;> omega
/-! new rows, copies -/
theorem G_newBX {E : Cxt} {cc : ByteArray} {y : MethodName} {M : Mp} {k n pc dE mcE msE : Nat} {lv : List (Nat × Value)} {st : List Value} {i : Int} (t : Nat) (hC : Cx E cc y) (hR : eR E = rmD dE mcE msE) (hw : Cond.arrayClass .byte ∈ TB) (hi : 0 ≤ i ∧ i ≤ 20000) (hk : k + 1 ≤ mcE) (hn : n + i.toNat ≤ msE) (d : decode cc pc = .ok (.newarray .byte, 2))
    (kk : ∀ (q : Nat) (M' : Mp), M q = none → Row (eD E) M' q t i.toNat [] → Fr [] M M' → G E M' (k + 1) (n + i.toNat) lv (.ref q :: st) (pc + 2)) : G E M k n lv (vI i :: st) pc := by
  refine G_newB t hC hw (by omega) (by rw [hR]; exact hk) (by rw [hR]; exact hn) d (fun q hq => kk q _ hq ⟨_, mset_self _ _ _, Nat.zero_le _, by omega, fun _ => by omega, fun j hj => absurd hj (Nat.not_lt_zero _)⟩ (Fr_new hq))
/-- all of a row into a new one -/
theorem G_copyB0 {E : Cxt} {cc : ByteArray} {y : MethodName} {M : Mp} {k n pc idx a0 a1 t0 t1 n0 n1 dE mcE msE : Nat} {lv : List (Nat × Value)} {st : List Value} {xs : List Int} {len : Int} (hC : Cx E cc y) (hR : eR E = rmD dE mcE msE) (w1 : Cond.methodLink y.cls idx arraycopyName ∈ TB) (w2 : Cond.native arraycopyName ∈ TB) (w3 : Cond.static arraycopyName ∈ TB) (w4 : Cond.initialized "java/lang/System" ∈ TB) (h0 : Row (eD E) M a0 t0 n0 xs) (h1 : Row (eD E) M a1 t1 n1 []) (hlen : len = n0) (hle : n0 ≤ n1) (hfr : 1 ≤ dE) (hlo : (st.map fun v => v.category).sum + (nativeFrameWords "java/lang/System" "arraycopy" 5 + 11) ≤ 40 * dE) (d : decode cc pc = .ok (.invokestatic idx, 3))
    (kk : ∀ M' : Mp, Row (eD E) M' a1 t1 n1 xs → Fr [t1] M M' → G E M' k n lv st (pc + 3)) : G E M k n lv (vI len :: vI 0 :: .ref a1 :: vI 0 :: .ref a0 :: st) pc := by
  obtain ⟨f, f1, f2, f3, f4, f5⟩ := h0
  obtain ⟨g, g1, g2, g3, g4, g5⟩ := h1
  refine G_copyB hC w1 w2 w3 w4 f1 g1 (by omega) (by omega) (by omega) (by omega) f4 (by rw [hR]; exact hfr) (by rw [hR]; exact hlo) d (kk _ ⟨_, mset_self _ _ _, by omega, g3, fun j => ?_, fun j hj => ?_⟩ (Fr_set g1))
  · unfold cpyZ
    split
    · exact f4 _
    · exact g4 _
  · unfold cpyZ
    rw [if_pos (by omega)]
    have e : (0 : Int).toNat + (j - (0 : Int).toNat) = j := by omega
    rw [e]
    exact f5 j hj
/-- a piece of a row behind the last byte of another -/
theorem G_copyBA {E : Cxt} {cc : ByteArray} {y : MethodName} {M : Mp} {k n pc idx a0 a1 t0 t1 n0 n1 dE mcE msE : Nat} {lv : List (Nat × Value)} {st : List Value} {xs ys : List Int} {sp dp len : Int} (hC : Cx E cc y) (hR : eR E = rmD dE mcE msE) (w1 : Cond.methodLink y.cls idx arraycopyName ∈ TB) (w2 : Cond.native arraycopyName ∈ TB) (w3 : Cond.static arraycopyName ∈ TB) (w4 : Cond.initialized "java/lang/System" ∈ TB) (h0 : Row (eD E) M a0 t0 n0 xs) (h1 : Row (eD E) M a1 t1 n1 ys) (hsp : 0 ≤ sp ∧ 0 ≤ len ∧ sp + len ≤ xs.length) (hdp : dp = ys.length) (hle : dp + len ≤ n1) (hfr : 1 ≤ dE) (hlo : (st.map fun v => v.category).sum + (nativeFrameWords "java/lang/System" "arraycopy" 5 + 11) ≤ 40 * dE) (d : decode cc pc = .ok (.invokestatic idx, 3))
    (kk : ∀ M' : Mp, Row (eD E) M' a1 t1 n1 (ys ++ (xs.drop sp.toNat).take len.toNat) → Fr [t1] M M' → G E M' k n lv st (pc + 3)) : G E M k n lv (vI len :: vI dp :: .ref a1 :: vI sp :: .ref a0 :: st) pc := by
  obtain ⟨f, f1, f2, f3, f4, f5⟩ := h0
  obtain ⟨g, g1, g2, g3, g4, g5⟩ := h1
  have hl : ((xs.drop sp.toNat).take len.toNat).length = len.toNat := by
    rw [List.length_take, List.length_drop]
    omega
  refine G_copyB hC w1 w2 w3 w4 f1 g1 (by omega) (by omega) (by omega) (by omega) f4 (by rw [hR]; exact hfr) (by rw [hR]; exact hlo) d (kk _ ⟨_, mset_self _ _ _, ?_, g3, fun j => ?_, fun j hj => ?_⟩ (Fr_set g1))
  · rw [List.length_append, hl]
    omega
  · unfold cpyZ
    split
    · exact f4 _
    · exact g4 _
  · rw [List.length_append, hl] at hj
    unfold cpyZ
    by_cases hjj : j < ys.length
    · rw [if_neg (by omega), g5 j hjj]
      simp [List.getD_eq_getElem?_getD, List.getElem?_append_left hjj]
    · rw [if_pos (by omega), f5 _ (by omega)]
      simp only [List.getD_eq_getElem?_getD]
      rw [List.getElem?_append_right (by omega), List.getElem?_take_of_lt (by omega), List.getElem?_drop]
      congr 2
      omega
end
section
/-! LINKS: words by their places: printed by wip/gen/names.py -/
theorem w_acB : Cond.arrayClass .byte ∈ TB := tb_in 76 (by decide +kernel) rfl
theorem w_acI : Cond.arrayClass .int ∈ TB := tb_in 129 (by decide +kernel) rfl
theorem w_acN : Cond.native arraycopyName ∈ TB := tb_in 257 (by decide +kernel) rfl
theorem w_acS : Cond.static arraycopyName ∈ TB := tb_in 256 (by decide +kernel) rfl
theorem w_syI : Cond.initialized "java/lang/System" ∈ TB := tb_in 42 (by decide +kernel) rfl
theorem w_oiM : Cond.instanceMethod Lib.objectInit ∈ TB := tb_in 55 (by decide +kernel) rfl
theorem w_oiC : Cond.code Lib.objectInit ⟨#[0xb1]⟩ 1 none ∈ TB := tb_in 56 (by decide +kernel) rfl
theorem w_maI : Cond.initialized "java/lang/Math" ∈ TB := tb_in 32 (by decide +kernel) rfl
theorem w_miS : Cond.static Lib.Math.min.name ∈ TB := tb_in 64 (by decide +kernel) rfl
theorem w_miC : Cond.code Lib.Math.min.name Lib.Math.min.code 2 (some .int) ∈ TB := tb_in 65 (by decide +kernel) rfl
theorem w_mxS : Cond.static Lib.Math.max.name ∈ TB := tb_in 607 (by decide +kernel) rfl
theorem w_mxC : Cond.code Lib.Math.max.name Lib.Math.max.code 2 (some .int) ∈ TB := tb_in 608 (by decide +kernel) rfl
end
section
/-! SPECIAL CALLS: rows of the library's own methods, with their words -/
theorem G_objI {E : Cxt} {cc : ByteArray} {y : MethodName} {M : Mp} {k n pc idx a dE mcE msE : Nat} {lv : List (Nat × Value)} {st : List Value} (hC : Cx E cc y) (hR : eR E = rmD dE mcE msE) (w1 : Cond.methodLink y.cls idx Lib.objectInit ∈ TB) (hfr : 1 ≤ dE) (hlo : (st.map fun v => v.category).sum + 12 ≤ 40 * dE) (d : decode cc pc = .ok (.invokespecial idx, 3)) (kk : G E M k n lv st (pc + 3)) : G E M k n lv (.ref a :: st) pc :=
  G_objInit hC w1 w_oiM w_oiC (by rw [hR]; exact hfr) (by rw [hR]; exact hlo) d kk
theorem G_minX {E : Cxt} {cc : ByteArray} {y : MethodName} {M : Mp} {k n pc idx dE mcE msE : Nat} {lv : List (Nat × Value)} {st : List Value} {a b c : Int} (hC : Cx E cc y) (hR : eR E = rmD dE mcE msE) (w1 : Cond.methodLink y.cls idx Lib.Math.min.name ∈ TB) (ha9 : -2147483648 ≤ a ∧ a ≤ 2147483647) (hb9 : -2147483648 ≤ b ∧ b ≤ 2147483647) (hc : c = min a b) (hfr : 1 ≤ dE) (hlo : (st.map fun v => v.category).sum + 13 ≤ 40 * dE) (hk : k ≤ mcE) (hn : n ≤ msE) (d : decode cc pc = .ok (.invokestatic idx, 3))
    (kk : G E M k n lv (vI c :: st) (pc + 3)) : G E M k n lv (vI b :: vI a :: st) pc := by
  refine G_min hC w1 w_miS w_maI w_miC ha9 hb9 (by rw [hR]; exact hfr) (by rw [hR]; exact hlo) (by rw [hR]; exact hk) (by rw [hR]; exact hn) d ?_
  have e : (if b < a then b else a) = c := by
    rw [hc]
    split <;> omega
  rw [e]
  exact kk
theorem G_maxX {E : Cxt} {cc : ByteArray} {y : MethodName} {M : Mp} {k n pc idx dE mcE msE : Nat} {lv : List (Nat × Value)} {st : List Value} {a b c : Int} (hC : Cx E cc y) (hR : eR E = rmD dE mcE msE) (w1 : Cond.methodLink y.cls idx Lib.Math.max.name ∈ TB) (ha9 : -2147483648 ≤ a ∧ a ≤ 2147483647) (hb9 : -2147483648 ≤ b ∧ b ≤ 2147483647) (hc : c = max a b) (hfr : 1 ≤ dE) (hlo : (st.map fun v => v.category).sum + 13 ≤ 40 * dE) (hk : k ≤ mcE) (hn : n ≤ msE) (d : decode cc pc = .ok (.invokestatic idx, 3))
    (kk : G E M k n lv (vI c :: st) (pc + 3)) : G E M k n lv (vI b :: vI a :: st) pc := by
  refine G_max hC w1 w_mxS w_maI w_mxC ha9 hb9 (by rw [hR]; exact hfr) (by rw [hR]; exact hlo) (by rw [hR]; exact hk) (by rw [hR]; exact hn) d ?_
  have e : (if a < b then b else a) = c := by
    rw [hc]
    split <;> omega
  rw [e]
  exact kk
theorem Row.take {D : Dg} {M : Mp} {r t len : Nat} {xs : List Int} (h : Row D M r t len xs) (n : Nat) : Row D M r t len (xs.take n) := by
  obtain ⟨g, h1, h2, h3, h4, h5⟩ := h
  refine ⟨g, h1, ?_, h3, h4, fun j hj => ?_⟩
  · rw [List.length_take]
    omega
  · rw [List.length_take] at hj
    rw [h5 j (by omega)]
    simp only [List.getD_eq_getElem?_getD]
    rw [List.getElem?_take_of_lt (by omega)]
end
section
/-! TEXT CONSTANTS, SWITCHES, LONGS -/
/-- the text constant i as signed bytes -/
def wrd (i : Nat) : List Int := (bytTX.getD i []).map Int32.toInt
theorem wrd_all : ∀ i, i < nTX → (wrd i).length = lenTX.getD i 0 ∧ (wrd i).length ≤ 20 ∧ ∀ j, j < 20 → 0 ≤ (wrd i).getD j 0 ∧ (wrd i).getD j 0 ≤ 126 := by decide +kernel
theorem wrd_get (i j : Nat) : (bytTX.getD i []).getD j 0 = zI ((wrd i).getD j 0) := by
  unfold wrd
  by_cases h : j < (bytTX.getD i []).length
  · rw [gD_lt h, gD_lt (show j < ((bytTX.getD i []).map Int32.toInt).length by rw [List.length_map]; exact h), List.getElem_map, zI_self]
  · rw [gD_ge (by omega), gD_ge (show ((bytTX.getD i []).map Int32.toInt).length ≤ j by rw [List.length_map]; omega)]
    rfl
theorem G_getTV {E : Cxt} {cc : ByteArray} {y : MethodName} {M : Mp} {k n pc idx i : Nat} {lv : List (Nat × Value)} {st : List Value} (hC : Cx E cc y) (hi : i < nTX) (w1 : Cond.fieldLink y.cls idx "java/lang/String" "value" "[B" ∈ TB) (d : decode cc pc = .ok (.getfield idx, 3)) (kk : G E M k n lv (.ref ((eD E).2.2.2 i) :: st) (pc + 3)) : G E M k n lv (.ref ((eD E).2.2.1 i) :: st) pc := by
  obtain ⟨p, l, e, R, s, m, args, below, meth, c, D, b0, nL, Q⟩ := E
  obtain ⟨hx, hb, hml, hown, hts, hKn, hb0, hlk, hmn⟩ := hC
  intro H locs ls hR hS hl
  exact vk_getf hx hb (hKn.2.2.1.1 i hi).2.2.1 hS hown (hts _ w1) (fun _ h => h) d (kk H locs ls hR hS hl)
theorem G_getTC {E : Cxt} {cc : ByteArray} {y : MethodName} {M : Mp} {k n pc idx i : Nat} {lv : List (Nat × Value)} {st : List Value} (hC : Cx E cc y) (hi : i < nTX) (w1 : Cond.fieldLink y.cls idx "java/lang/String" "coder" "B" ∈ TB) (d : decode cc pc = .ok (.getfield idx, 3)) (kk : G E M k n lv (vI 0 :: st) (pc + 3)) : G E M k n lv (.ref ((eD E).2.2.1 i) :: st) pc := by
  obtain ⟨p, l, e, R, s, m, args, below, meth, c, D, b0, nL, Q⟩ := E
  obtain ⟨hx, hb, hml, hown, hts, hKn, hb0, hlk, hmn⟩ := hC
  intro H locs ls hR hS hl
  exact vk_getf hx hb (hKn.2.2.1.1 i hi).2.1 hS hown (hts _ w1) (fun _ h => h) d (kk H locs ls hR hS hl)
theorem G_tlen {E : Cxt} {cc : ByteArray} {y : MethodName} {M : Mp} {k n pc i : Nat} {lv : List (Nat × Value)} {st : List Value} (hC : Cx E cc y) (hi : i < nTX) (d : decode cc pc = .ok (.arraylength, 1)) (kk : G E M k n lv (vI ((wrd i).length : Int) :: st) (pc + 1)) : G E M k n lv (.ref ((eD E).2.2.2 i) :: st) pc := by
  obtain ⟨p, l, e, R, s, m, args, below, meth, c, D, b0, nL, Q⟩ := E
  obtain ⟨hx, hb, hml, hown, hts, hKn, hb0, hlk, hmn⟩ := hC
  intro H locs ls hR hS hl
  refine va_tlen hx hb (hKn.2.2.1.1 i hi).2.2.2 hS (v := zI ((wrd i).length : Int)) ?_ d (kk H locs ls hR hS hl)
  rw [(wrd_all i hi).1, zI_nat]
theorem G_tbald {E : Cxt} {cc : ByteArray} {y : MethodName} {M : Mp} {k n pc i : Nat} {j : Int} {lv : List (Nat × Value)} {st : List Value} (hC : Cx E cc y) (hi : i < nTX) (hj : 0 ≤ j ∧ j < (wrd i).length) (d : decode cc pc = .ok (.baload, 1)) (kk : G E M k n lv (vI ((wrd i).getD j.toNat 0) :: st) (pc + 1)) : G E M k n lv (vI j :: .ref ((eD E).2.2.2 i) :: st) pc := by
  obtain ⟨p, l, e, R, s, m, args, below, meth, c, D, b0, nL, Q⟩ := E
  obtain ⟨hx, hb, hml, hown, hts, hKn, hb0, hlk, hmn⟩ := hC
  intro H locs ls hR hS hl
  have h9 := wrd_all i hi
  refine va_tb hx hb (hKn.2.2.1.1 i hi).2.2.2 hS (i := zI j) (zI_in ⟨hj.1, by omega⟩ (by omega)) (v := vI ((wrd i).getD j.toNat 0)) ?_ d (kk H locs ls hR hS hl)
  show Value.int _ = _
  rw [zI_clamp ⟨hj.1, by omega⟩, wrd_get]
theorem G_getCS {E : Cxt} {cc : ByteArray} {y : MethodName} {M : Mp} {k n pc idx : Nat} {lv : List (Nat × Value)} {st : List Value} (hC : Cx E cc y) (w1 : Cond.fieldLink y.cls idx "java/lang/String" "COMPACT_STRINGS" "Z" ∈ TB) (d : decode cc pc = .ok (.getstatic idx, 3)) (kk : G E M k n lv (vI 1 :: st) (pc + 3)) : G E M k n lv st pc := by
  obtain ⟨p, l, e, R, s, m, args, below, meth, c, D, b0, nL, Q⟩ := E
  obtain ⟨hx, hb, hml, hown, hts, hKn, hb0, hlk, hmn⟩ := hC
  intro H locs ls hR hS hl
  exact va_gets hx hb hKn.2.2.2.2.2.1 hS hown (hts _ w1) (fun _ h => h) d (kk H locs ls hR hS hl)
theorem G_getSF {E : Cxt} {cc : ByteArray} {y : MethodName} {M : Mp} {k n pc idx : Nat} {lv : List (Nat × Value)} {st : List Value} (hC : Cx E cc y) (w1 : Cond.fieldLink y.cls idx "jdk/internal/util/Preconditions" "SIOOBE_FORMATTER" "Ljava/util/function/BiFunction;" ∈ TB) (d : decode cc pc = .ok (.getstatic idx, 3)) (kk : ∀ v : Value, (v = .null ∨ ∃ a, v = .ref a) → G E M k n lv (v :: st) (pc + 3)) : G E M k n lv st pc := by
  obtain ⟨p, l, e, R, s, m, args, below, meth, c, D, b0, nL, Q⟩ := E
  obtain ⟨hx, hb, hml, hown, hts, hKn, hb0, hlk, hmn⟩ := hC
  intro H locs ls hR hS hl
  obtain ⟨v, h7, h8⟩ := hKn.2.2.2.2.2.2
  exact va_gets hx hb h8 hS hown (hts _ w1) (fun _ h => h) d (kk v h7 H locs ls hR hS hl)
def CT (own : String) (idx : Nat) (y : MethodName) (cc : ByteArray) (nL : Nat) (ret : Option FieldType) (np : Nat) : Prop := MW y cc nL ret np ∧ Cond.methodLink own idx y ∈ TB ∧ Cond.instanceMethod y ∈ TB ∧ Cond.selects y.cls y y ∈ TB ∧ y.cls = "java/lang/String"
/-- a call on a text constant -/
theorem G_pT {E : Cxt} {cc cc' : ByteArray} {y y' : MethodName} {M : Mp} {k n pc idx d0 dE mcE msE nL' np i : Nat} {ret : Option FieldType} {lv : List (Nat × Value)} {st As rest : List Value} {v : Value} (hC : Cx E cc y) (hR : eR E = rmD dE mcE msE) (hM : OkP (eL E) (eD E) (eB E) d0 y' cc' nL' ret M (.ref ((eD E).2.2.1 i) :: As) v) (hW : CT y.cls idx y' cc' nL' ret np) (hi : i < nTX) (hd : d0 + 1 ≤ dE) (hk : k ≤ mcE) (hn : n ≤ msE) (hnp : As.length = np) (hst : st = As.reverse ++ .ref ((eD E).2.2.1 i) :: rest) (hrm : (rest.map fun v => v.category).sum ≤ 8) (d : decode cc pc = .ok (.invokevirtual idx, 3))
    (kk : G E M k n lv (v :: rest) (pc + 3)) : G E M k n lv st pc := by
  refine G_run (mc := 0) (ms := 0) (a := (Value.ref ((eD E).2.2.1 i) :: As).toArray) (rest := rest) (Post := fun r M' => r = some v ∧ M' = M) ?_ (fun r M' hp => by obtain ⟨rfl, rfl⟩ := hp; exact kk)
  obtain ⟨w0, w1, w2, w3, w4⟩ := hW
  obtain ⟨p, l, e, R, s, m, args, below, meth, c, D, b0, nL, Q⟩ := E
  obtain ⟨hx, hb, hml, hown, hts, hKn, hb0, hlk, hmn⟩ := hC
  intro H locs ls hR2 hS hl
  have hR3 : R = rmD dE mcE msE := hR
  have hrec : ∃ cell : Cell, H[D.2.2.1 i]? = some cell ∧ cell.vm.isStatics = false ∧ s.vm.findClass y'.cls = some cell.cls := by
    rw [w4]
    exact vk_recv hKn.2.2.1 hi hS
  exact va_runV (C := y'.cls) (As := As) (rest := rest) ⟨hx, hb, hml, hown, hts⟩ hM ⟨callB_TB hts w0 w1 (by rw [hR3]; exact hd) (by rw [hR3]; show 40 * (d0 + 1) ≤ 40 * dE; omega), hts _ w2, hts _ w3⟩ ⟨pre_blind, hrec, fun U hU hWm => ⟨rfl, by rw [hU]; exact Nat.le_trans hb0 hS.1, by rw [hU]; exact hR2, Kn_moved (locs := locs) hKn hWm (by rw [hU]; exact hS)⟩⟩ rfl hnp hl.1 hst (lv_room hrm) d (by rw [hR3]; exact ⟨hk, hn⟩)
/-! switches -/
theorem G_tabIn {E : Cxt} {cc : ByteArray} {y : MethodName} {M : Mp} {k n pc len : Nat} {lv : List (Nat × Value)} {st : List Value} {x dflt lo hi off : Int} {offs : Array Int} (v : Int) (tgt : Nat) (hC : Cx E cc y) (hx : x = v) (hv : lo ≤ v ∧ v ≤ hi ∧ -2147483648 ≤ v ∧ v ≤ 2147483647) (ho : offs[(v - lo).toNat]? = some off) (ht : (pc : Int) + off = (tgt : Int)) (d : decode cc pc = .ok (.tableswitch dflt lo hi offs, len)) (kk : G E M k n lv st tgt) : G E M k n lv (vI x :: st) pc := by
  subst hx
  obtain ⟨p, l, e, R, s, m, args, below, meth, c, D, b0, nL, Q⟩ := E
  obtain ⟨hx, hb, hml, hown, hts, hKn, hb0, hlk, hmn⟩ := hC
  intro H locs ls hR hS hl
  have e9 : (zI x).toInt = x := zI_toInt hv.2.2
  exact lv_tableIn hx hb d (by rw [e9]; omega) (by rw [e9]; omega) (by rw [e9]; exact ho) ht (kk H locs ls hR hS hl)
theorem G_tabOut {E : Cxt} {cc : ByteArray} {y : MethodName} {M : Mp} {k n pc len : Nat} {lv : List (Nat × Value)} {st : List Value} {x dflt lo hi : Int} {offs : Array Int} (tgt : Nat) (hC : Cx E cc y) (hx9 : -2147483648 ≤ x ∧ x ≤ 2147483647) (hv : x < lo ∨ hi < x) (ht : (pc : Int) + dflt = (tgt : Int)) (d : decode cc pc = .ok (.tableswitch dflt lo hi offs, len)) (kk : G E M k n lv st tgt) : G E M k n lv (vI x :: st) pc := by
  obtain ⟨p, l, e, R, s, m, args, below, meth, c, D, b0, nL, Q⟩ := E
  obtain ⟨hx, hb, hml, hown, hts, hKn, hb0, hlk, hmn⟩ := hC
  intro H locs ls hR hS hl
  have e9 : (zI x).toInt = x := zI_toInt hx9
  exact lv_tableOut hx hb d (by rw [e9]; exact hv) ht (kk H locs ls hR hS hl)
theorem G_look {E : Cxt} {cc : ByteArray} {y : MethodName} {M : Mp} {k n pc len : Nat} {lv : List (Nat × Value)} {st : List Value} {x dflt off : Int} {ps : Array (Int × Int)} (tgt : Nat) (hC : Cx E cc y) (hx9 : -2147483648 ≤ x ∧ x ≤ 2147483647) (hp : (ps.toList.zip (ps.toList.drop 1)).all (fun (a, next) => a.1 < next.1) = true) (ho : Op.lookupswitch.offset ps.toList dflt x = off) (ht : (pc : Int) + off = (tgt : Int)) (d : decode cc pc = .ok (.lookupswitch dflt ps, len)) (kk : G E M k n lv st tgt) : G E M k n lv (vI x :: st) pc := by
  obtain ⟨p, l, e, R, s, m, args, below, meth, c, D, b0, nL, Q⟩ := E
  obtain ⟨hx, hb, hml, hown, hts, hKn, hb0, hlk, hmn⟩ := hC
  intro H locs ls hR hS hl
  have e9 : (zI x).toInt = x := zI_toInt hx9
  exact lv_lookup hx hb d hp (by rw [e9]; exact ho) ht (kk H locs ls hR hS hl)
/-! longs -/
def zL (i : Int) : Int64 := Int64.ofInt i
abbrev vL (i : Int) : Value := Value.long (zL i)
theorem zL_toInt {a : Int} (h : -9000000000 ≤ a ∧ a ≤ 9000000000) : (zL a).toInt = a := Int64.toInt_ofInt_of_le (by omega) (by omega)
theorem zI_i2l {a : Int} (h : -2147483648 ≤ a ∧ a ≤ 2147483647) : (zI a).toInt64 = zL a := by
  apply Int64.toInt_inj.mp
  rw [Int32.toInt_toInt64, zI_toInt h, zL_toInt (by omega)]
def cmpS (a b : Int) : Int := if b < a then 1 else if a = b then 0 else -1
theorem zL_cmp {a b : Int} (ha : -9000000000 ≤ a ∧ a ≤ 9000000000) (hb : -9000000000 ≤ b ∧ b ≤ 9000000000) : lg_cmp (zL a) (zL b) = zI (cmpS a b) := by
  have e1 : zL b < zL a ↔ b < a := by rw [Int64.lt_iff_toInt_lt, zL_toInt ha, zL_toInt hb]
  have e2 : zL a = zL b ↔ a = b := by rw [← Int64.toInt_inj, zL_toInt ha, zL_toInt hb]
  unfold lg_cmp cmpS
  simp only [e1, e2]
  split
  · rfl
  · split
    · rfl
    · rfl
theorem G_i2lR {E : Cxt} {cc : ByteArray} {y : MethodName} {M : Mp} {k n pc : Nat} {lv : List (Nat × Value)} {st : List Value} {a : Int} (hC : Cx E cc y) (ha : -2147483648 ≤ a ∧ a ≤ 2147483647) (d : decode cc pc = .ok (.i2l, 1)) (kk : G E M k n lv (vL a :: st) (pc + 1)) : G E M k n lv (vI a :: st) pc := G_i2l hC (zI_i2l ha) d kk
theorem G_lcmpR {E : Cxt} {cc : ByteArray} {y : MethodName} {M : Mp} {k n pc : Nat} {lv : List (Nat × Value)} {st : List Value} {a b : Int} (hC : Cx E cc y) (ha : -9000000000 ≤ a ∧ a ≤ 9000000000) (hb9 : -9000000000 ≤ b ∧ b ≤ 9000000000) (d : decode cc pc = .ok (.lcmp, 1)) (kk : G E M k n lv (vI (cmpS a b) :: st) (pc + 1)) : G E M k n lv (vL b :: vL a :: st) pc := by
  obtain ⟨p, l, e, R, s, m, args, below, meth, c, D, b0, nL, Q⟩ := E
  obtain ⟨hx, hb, hml, hown, hts, hKn, hb0, hlk, hmn⟩ := hC
  intro H locs ls hR hS hl
  refine W.lcmp hx hb d ?_
  rw [zL_cmp ha hb9]
  exact kk H locs ls hR hS hl
theorem G_ldc2R {E : Cxt} {cc : ByteArray} {y : MethodName} {M : Mp} {k n pc idx : Nat} {lv : List (Nat × Value)} {st : List Value} {a : Int} (hC : Cx E cc y) (w1 : Cond.constantLong y.cls idx (zL a) ∈ TB) (d : decode cc pc = .ok (.ldc2_w idx, 3)) (kk : G E M k n lv (vL a :: st) (pc + 3)) : G E M k n lv st pc := by
  obtain ⟨p, l, e, R, s, m, args, below, meth, c, D, b0, nL, Q⟩ := E
  obtain ⟨hx, hb, hml, hown, hts, hKn, hb0, hlk, hmn⟩ := hC
  intro H locs ls hR hS hl
  exact lv_ldc2 hx hb hown (hts _ w1) d (kk H locs ls hR hS hl)
theorem G_ishr0 {E : Cxt} {cc : ByteArray} {y : MethodName} {M : Mp} {k n pc : Nat} {lv : List (Nat × Value)} {st : List Value} {a : Int} (hC : Cx E cc y) (d : decode cc pc = .ok (.ishr, 1)) (kk : G E M k n lv (vI a :: st) (pc + 1)) : G E M k n lv (vI 0 :: vI a :: st) pc := by
  refine G_ishr hC (z := zI a) ?_ d kk
  have h0 : zI 0 &&& 31 = 0 := by decide +kernel
  rw [h0]
  simp
theorem G_i2cR {E : Cxt} {cc : ByteArray} {y : MethodName} {M : Mp} {k n pc : Nat} {lv : List (Nat × Value)} {st : List Value} {a : Int} (hC : Cx E cc y) (ha : 0 ≤ a ∧ a < 65536) (d : decode cc pc = .ok (.i2c, 1)) (kk : G E M k n lv (vI a :: st) (pc + 1)) : G E M k n lv (vI a :: st) pc := by
  have e9 : (zI a).toInt = a := zI_toInt (by omega)
  exact G_i2c hC (lg_i2c_word (by rw [e9]; omega) (by rw [e9]; omega)) d kk
theorem cmpS_rng (a b : Int) : -2147483648 ≤ cmpS a b ∧ cmpS a b ≤ 2147483647 := by
  unfold cmpS
  repeat' split
  all_goals omega
theorem cmpS_lt0 {a b : Int} : cmpS a b < 0 ↔ a < b := by
  unfold cmpS
  repeat' split
  all_goals omega
theorem cmpS_ge0 {a b : Int} : 0 ≤ cmpS a b ↔ b ≤ a := by
  unfold cmpS
  repeat' split
  all_goals omega
theorem cmpS_gt0 {a b : Int} : 0 < cmpS a b ↔ b < a := by
  unfold cmpS
  repeat' split
  all_goals omega
theorem cmpS_le0 {a b : Int} : cmpS a b ≤ 0 ↔ a ≤ b := by
  unfold cmpS
  repeat' split
  all_goals omega
theorem atS_gx {xs : List Int} {i : Int} (h : 0 ≤ i ∧ i < xs.length) : atS xs i = gx xs i % 256 := by
  unfold atS gx
  rw [if_pos h]
/-! calls of nest mates -/
def CN (own : String) (idx : Nat) (y : MethodName) (host : String) (cc : ByteArray) (nL : Nat) (ret : Option FieldType) (np : Nat) : Prop := MW y cc nL ret np ∧ Cond.static y ∈ TB ∧ (own, idx, y, host) ∈ nestTX
theorem G_xSN {E : Cxt} {cc cc' : ByteArray} {y y' : MethodName} {host : String} {M : Mp} {k n pc idx d0 dE mcE msE mc ms nL' np : Nat} {ret : Option FieldType} {lv : List (Nat × Value)} {st av rest : List Value} {Post : Option Value → Mp → Prop} (hC : Cx E cc y) (hR : eR E = rmD dE mcE msE) (hM : Ok (eL E) (eD E) (eB E) d0 y' cc' nL' ret M av mc ms Post) (hW : CN y.cls idx y' host cc' nL' ret np) (hd : d0 + 1 ≤ dE) (hk : k + mc ≤ mcE) (hn : n + ms ≤ msE) (hnp : av.length = np) (hst : st = av.reverse ++ rest) (hrm : (rest.map fun v => v.category).sum ≤ 8) (d : decode cc pc = .ok (.invokestatic idx, 3))
    (kk : ∀ (r : Option Value) (M' : Mp), Post r M' → G E M' (k + mc) (n + ms) lv (r.toList ++ rest) (pc + 3)) : G E M k n lv st pc := by
  obtain ⟨⟨h1, h2, h3, h4⟩, w2, w3⟩ := hW
  refine G_run (a := av.toArray) (rest := rest) ?_ kk
  obtain ⟨p, l, e, R, s, m, args, below, meth, c, D, b0, nL, Q⟩ := E
  obtain ⟨hx, hb, hml, hown, hts, hKn, hb0, hlk, hmn⟩ := hC
  intro H locs ls hR2 hS hl
  have hR3 : R = rmD dE mcE msE := hR
  have hG : GoodIn TB (Cond.code y' cc' nL' ret :: TB) := fun w hw => by
    rcases List.mem_cons.mp hw with rfl | hw
    · exact TB_good _ h1
    · exact TB_good _ hw
  exact va_runSN (As := av) (rest := rest) ⟨hx, hb, hml, hown, hts⟩ hM ⟨va_cnB np hts hG rfl rfl rfl (hKn.2.2.2.2.1 _ w3) (hts _ h2) h3 ⟨by rw [hR3]; exact hd, by rw [hR3]; show 8 + (nL' + 11) + 40 * d0 ≤ 40 * dE; omega⟩, hts _ w2, trivial⟩ ⟨pre_blind, fun U hU hWm => ⟨rfl, by rw [hU]; exact Nat.le_trans hb0 hS.1, by rw [hU]; exact hR2, Kn_moved (locs := locs) hKn hWm (by rw [hU]; exact hS)⟩⟩ rfl hnp hl.1 hst (lv_room hrm) d (by rw [hR3]; exact ⟨hk, hn⟩)
theorem G_pSN {E : Cxt} {cc cc' : ByteArray} {y y' : MethodName} {host : String} {M : Mp} {k n pc idx d0 dE mcE msE nL' np : Nat} {ret : Option FieldType} {lv : List (Nat × Value)} {st av rest : List Value} {v : Value} (hC : Cx E cc y) (hR : eR E = rmD dE mcE msE) (hM : OkP (eL E) (eD E) (eB E) d0 y' cc' nL' ret M av v) (hW : CN y.cls idx y' host cc' nL' ret np) (hd : d0 + 1 ≤ dE) (hk : k ≤ mcE) (hn : n ≤ msE) (hnp : av.length = np) (hst : st = av.reverse ++ rest) (hrm : (rest.map fun v => v.category).sum ≤ 8) (d : decode cc pc = .ok (.invokestatic idx, 3))
    (kk : G E M k n lv (v :: rest) (pc + 3)) : G E M k n lv st pc :=
  G_xSN hC hR hM hW hd hk hn hnp hst hrm d (fun r M' hp => by obtain ⟨rfl, rfl⟩ := hp; exact kk)
def CMi (own : String) (idx : Nat) (y : MethodName) (host : String) (cc : ByteArray) (nL np : Nat) : Prop := MW y cc nL none np ∧ Cond.instanceMethod y ∈ TB ∧ y.name = "<init>" ∧ (own, idx, y, host) ∈ nestTX
theorem G_xIN {E : Cxt} {cc cc' : ByteArray} {y y' : MethodName} {host : String} {M : Mp} {k n pc idx d0 dE mcE msE mc ms nL' np b : Nat} {lv : List (Nat × Value)} {st As rest : List Value} {Post : Option Value → Mp → Prop} (hC : Cx E cc y) (hR : eR E = rmD dE mcE msE) (hM : Ok (eL E) (eD E) (eB E) d0 y' cc' nL' none M (.ref b :: As) mc ms Post) (hW : CMi y.cls idx y' host cc' nL' np) (hd : d0 + 1 ≤ dE) (hk : k + mc ≤ mcE) (hn : n + ms ≤ msE) (hnp : As.length = np) (hst : st = As.reverse ++ .ref b :: rest) (hrm : (rest.map fun v => v.category).sum ≤ 8) (d : decode cc pc = .ok (.invokespecial idx, 3))
    (kk : ∀ (r : Option Value) (M' : Mp), Post r M' → G E M' (k + mc) (n + ms) lv (r.toList ++ rest) (pc + 3)) : G E M k n lv st pc := by
  obtain ⟨⟨h1, h2, h3, h4⟩, w2, w9, w3⟩ := hW
  refine G_run (a := (Value.ref b :: As).toArray) (rest := rest) ?_ kk
  obtain ⟨p, l, e, R, s, m, args, below, meth, c, D, b0, nL, Q⟩ := E
  obtain ⟨hx, hb, hml, hown, hts, hKn, hb0, hlk, hmn⟩ := hC
  intro H locs ls hR2 hS hl
  have hR3 : R = rmD dE mcE msE := hR
  have hG : GoodIn TB (Cond.code y' cc' nL' none :: TB) := fun w hw => by
    rcases List.mem_cons.mp hw with rfl | hw
    · exact TB_good _ h1
    · exact TB_good _ hw
  exact va_runIN (As := As) (rest := rest) ⟨hx, hb, hml, hown, hts⟩ hM ⟨va_cnB np hts hG rfl rfl rfl (hKn.2.2.2.2.1 _ w3) (hts _ h2) h3 ⟨by rw [hR3]; exact hd, by rw [hR3]; show 8 + (nL' + 11) + 40 * d0 ≤ 40 * dE; omega⟩, w9, hts _ w2⟩ ⟨pre_blind, fun U hU hWm => ⟨rfl, by rw [hU]; exact Nat.le_trans hb0 hS.1, by rw [hU]; exact hR2, Kn_moved (locs := locs) hKn hWm (by rw [hU]; exact hS)⟩⟩ rfl hnp hl.1 hst (lv_room hrm) d (by rw [hR3]; exact ⟨hk, hn⟩)
/-! the reference's texts -/
def IsT (D : Dg) (M : Mp) (a t len : Nat) (xs : List Int) : Prop := ∃ r : Nat, M a = some (t, .inr (cTx, [.ref r, vI (xs.length : Int)])) ∧ Row D M r (t + 1) len xs
theorem IsT.fr {D : Dg} {M M' : Mp} {a t len : Nat} {xs : List Int} {T : List Nat} (h : IsT D M a t len xs) (hf : Fr T M M') (hn : t ∉ T) (hn2 : t + 1 ∉ T) : IsT D M' a t len xs := by
  obtain ⟨r, h1, h2⟩ := h
  exact ⟨r, hf.at h1 hn, h2.fr hf hn2⟩
theorem IsT.obj {D : Dg} {M : Mp} {a t len : Nat} {xs : List Int} (h : IsT D M a t len xs) : IsObj M a cTx := by
  obtain ⟨r, h1, -⟩ := h
  exact ⟨_, _, h1⟩
theorem IsT.len {D : Dg} {M : Mp} {a t len : Nat} {xs : List Int} (h : IsT D M a t len xs) : xs.length ≤ len ∧ len ≤ 20000 := by
  obtain ⟨r, h1, h2⟩ := h
  exact h2.len
theorem nar_c {a : Int} (h : 0 ≤ a ∧ a < 65536) : narrow .char (vI a) = vI a := by
  obtain ⟨n, rfl⟩ := Int.eq_ofNat_of_zero_le h.1
  have e := (pk_charN (q := n) (by omega)).1
  unfold nI at e
  show narrow .char (.int (zI (n : Int))) = .int (zI (n : Int))
  rw [zI_nat]
  exact e
theorem G_nretP {E : Cxt} {cc : ByteArray} {y : MethodName} {M : Mp} {lv : List (Nat × Value)} {pc : Nat} {x X : Int} {ty : FieldType} (hC : Cx E cc y) (hQ : Cr E (some ty) 0 0 (fun r M' => r = some (vI X) ∧ M' = M)) (d : decode cc pc = .ok (.ireturn, 1)) (hn : narrow ty (vI X) = vI X) (he : x = X) : G E M 0 0 lv [vI x] pc := by
  subst he
  exact G_zreturn hC hQ (Nat.le_refl _) (Nat.le_refl _) hn d ⟨rfl, rfl⟩
end
section
theorem lm_Arr_310 : Cond.methodLink "java/util/Arrays" 310 ⟨"[B", "clone", "()Ljava/lang/Object;"⟩ ∈ TB := (tb_in 247 (by decide +kernel) rfl)
theorem lm_Arr_304 : Cond.methodLink "java/util/Arrays" 304 ⟨"java/lang/Math", "min", "(II)I"⟩ ∈ TB := (tb_in 254 (by decide +kernel) rfl)
theorem lm_Arr_150 : Cond.methodLink "java/util/Arrays" 150 ⟨"java/lang/System", "arraycopy", "(Ljava/lang/Object;ILjava/lang/Object;II)V"⟩ ∈ TB := (tb_in 255 (by decide +kernel) rfl)
theorem ls_Str_38 : Cond.fieldLink "java/lang/String" 38 "java/lang/String" "COMPACT_STRINGS" "Z" ∈ TB := (tb_in 422 (by decide +kernel) rfl)
theorem ls_Str_15 : Cond.fieldLink "java/lang/String" 15 "java/lang/String" "coder" "B" ∈ TB := (tb_in 933 (by decide +kernel) rfl)
theorem ls_Str_9 : Cond.fieldLink "java/lang/String" 9 "java/lang/String" "value" "[B" ∈ TB := (tb_in 932 (by decide +kernel) rfl)
set_option maxRecDepth 100000 in
theorem mw_Str_coder : MW y_Str_coder b_Str_coder 1 (some .byte) 0 := ⟨tb_in 421 rfl rfl, (tb_in 45 (by decide +kernel) rfl), ⟨by decide +kernel, by decide +kernel, by decide +kernel⟩, (Nat.le_of_ble_eq_true rfl)⟩
theorem ct_Str_335 : CT "java/lang/String" 335 y_Str_coder b_Str_coder 1 (some .byte) 0 := ⟨mw_Str_coder, (tb_in 418 (by decide +kernel) rfl), (tb_in 419 (by decide +kernel) rfl), (tb_in 420 (by decide +kernel) rfl), rfl⟩
set_option maxRecDepth 100000 in
theorem mw_Str_checkIndex : MW y_Str_checkIndex b_Str_checkIndex 2 none 2 := ⟨tb_in 437 rfl rfl, (tb_in 45 (by decide +kernel) rfl), ⟨by decide +kernel, by decide +kernel, by decide +kernel⟩, (Nat.le_of_ble_eq_true rfl)⟩
theorem cs_SL_9 : CS "java/lang/StringLatin1" 9 y_Str_checkIndex b_Str_checkIndex 2 none 2 := ⟨mw_Str_checkIndex, (tb_in 435 (by decide +kernel) rfl), (tb_in 436 (by decide +kernel) rfl)⟩
set_option maxRecDepth 100000 in
theorem mw_Str_isLatin1 : MW y_Str_isLatin1 b_Str_isLatin1 1 (some .boolean) 0 := ⟨tb_in 431 rfl rfl, (tb_in 45 (by decide +kernel) rfl), ⟨by decide +kernel, by decide +kernel, by decide +kernel⟩, (Nat.le_of_ble_eq_true rfl)⟩
theorem ct_Str_492 : CT "java/lang/String" 492 y_Str_isLatin1 b_Str_isLatin1 1 (some .boolean) 0 := ⟨mw_Str_isLatin1, (tb_in 428 (by decide +kernel) rfl), (tb_in 429 (by decide +kernel) rfl), (tb_in 430 (by decide +kernel) rfl), rfl⟩
set_option maxRecDepth 100000 in
theorem mw_SL_charAt : MW y_SL_charAt b_SL_charAt 2 (some .char) 2 := ⟨tb_in 434 rfl rfl, (tb_in 46 (by decide +kernel) rfl), ⟨by decide +kernel, by decide +kernel, by decide +kernel⟩, (Nat.le_of_ble_eq_true rfl)⟩
theorem cs_Str_495 : CS "java/lang/String" 495 y_SL_charAt b_SL_charAt 2 (some .char) 2 := ⟨mw_SL_charAt, (tb_in 432 (by decide +kernel) rfl), (tb_in 433 (by decide +kernel) rfl)⟩
set_option maxRecDepth 100000 in
theorem mw_SU_charAt : MW y_SU_charAt b_SU_charAt 2 (some .char) 2 := ⟨tb_in 445 rfl rfl, (tb_in 48 (by decide +kernel) rfl), ⟨by decide +kernel, by decide +kernel, by decide +kernel⟩, (Nat.le_of_ble_eq_true rfl)⟩
theorem cs_Str_498 : CS "java/lang/String" 498 y_SU_charAt b_SU_charAt 2 (some .char) 2 := ⟨mw_SU_charAt, (tb_in 443 (by decide +kernel) rfl), (tb_in 444 (by decide +kernel) rfl)⟩
theorem ls_Str_1053 : Cond.fieldLink "java/lang/String" 1053 "jdk/internal/util/Preconditions" "SIOOBE_FORMATTER" "Ljava/util/function/BiFunction;" ∈ TB := (tb_in 438 (by decide +kernel) rfl)
set_option maxRecDepth 100000 in
theorem mw_Pre_checkIndex : MW y_Pre_checkIndex b_Pre_checkIndex 3 (some .int) 3 := ⟨tb_in 442 rfl rfl, (tb_in 47 (by decide +kernel) rfl), ⟨by decide +kernel, by decide +kernel, by decide +kernel⟩, (Nat.le_of_ble_eq_true rfl)⟩
theorem cs_Str_1059 : CS "java/lang/String" 1059 y_Pre_checkIndex b_Pre_checkIndex 3 (some .int) 3 := ⟨mw_Pre_checkIndex, (tb_in 440 (by decide +kernel) rfl), (tb_in 441 (by decide +kernel) rfl)⟩
theorem fws_By : ∀ w ∈ u_ws R_By F_By 3, w ∈ TB := by decide +kernel
theorem ft_By : FT cBy t_By := fun C T N h => by
  have h2 : some (R_By, F_By, 3) = some (C, T, N) := h
  cases h2
  exact ⟨by decide +kernel, by decide +kernel⟩
theorem fl_By_23 : FL "SendPolicy$Bytes" 23 cBy 2 := ⟨R_By, F_By, 3, rfl, fws_By, (Nat.le_of_ble_eq_true rfl), (tb_in 68 (by decide +kernel) rfl)⟩
theorem fl_By_7 : FL "SendPolicy$Bytes" 7 cBy 0 := ⟨R_By, F_By, 3, rfl, fws_By, (Nat.le_of_ble_eq_true rfl), (tb_in 66 (by decide +kernel) rfl)⟩
theorem fl_By_19 : FL "SendPolicy$Bytes" 19 cBy 1 := ⟨R_By, F_By, 3, rfl, fws_By, (Nat.le_of_ble_eq_true rfl), (tb_in 67 (by decide +kernel) rfl)⟩
theorem lm_By_13 : Cond.methodLink "SendPolicy$Bytes" 13 ⟨"java/lang/Math", "min", "(II)I"⟩ ∈ TB := (tb_in 63 (by decide +kernel) rfl)
set_option maxRecDepth 100000 in
theorem mw_Arr_copyOf : MW y_Arr_copyOf b_Arr_copyOf 3 (some (.array .byte)) 2 := ⟨tb_in 246 rfl rfl, (tb_in 41 (by decide +kernel) rfl), ⟨by decide +kernel, by decide +kernel, by decide +kernel⟩, (Nat.le_of_ble_eq_true rfl)⟩
theorem cs_By_26 : CS "SendPolicy$Bytes" 26 y_Arr_copyOf b_Arr_copyOf 3 (some (.array .byte)) 2 := ⟨mw_Arr_copyOf, (tb_in 244 (by decide +kernel) rfl), (tb_in 245 (by decide +kernel) rfl)⟩
theorem fw_By_1 : FW cBy 1 := fun C T N h => by
  have h2 : some (R_By, F_By, 3) = some (C, T, N) := h
  cases h2
  rfl
theorem fw_By_2 : FW cBy 2 := fun C T N h => by
  have h2 : some (R_By, F_By, 3) = some (C, T, N) := h
  cases h2
  rfl
set_option maxRecDepth 100000 in
theorem mw_By_add : MW y_By_add b_By_add 2 none 1 := ⟨tb_in 243 rfl rfl, (tb_in 31 (by decide +kernel) rfl), ⟨by decide +kernel, by decide +kernel, by decide +kernel⟩, (Nat.le_of_ble_eq_true rfl)⟩
theorem cv_By_32 : CV "SendPolicy$Bytes" 32 y_By_add b_By_add 2 none 1 cBy := ⟨mw_By_add, (tb_in 240 (by decide +kernel) rfl), (tb_in 241 (by decide +kernel) rfl), (tb_in 242 (by decide +kernel) rfl), _, rfl, rfl⟩
theorem lm_By_36 : Cond.methodLink "SendPolicy$Bytes" 36 ⟨"java/lang/System", "arraycopy", "(Ljava/lang/Object;ILjava/lang/Object;II)V"⟩ ∈ TB := (tb_in 332 (by decide +kernel) rfl)
set_option maxRecDepth 100000 in
theorem mw_By_at : MW y_By_at b_By_at 2 (some .int) 1 := ⟨tb_in 286 rfl rfl, (tb_in 31 (by decide +kernel) rfl), ⟨by decide +kernel, by decide +kernel, by decide +kernel⟩, (Nat.le_of_ble_eq_true rfl)⟩
theorem cv_By_42 : CV "SendPolicy$Bytes" 42 y_By_at b_By_at 2 (some .int) 1 cBy := ⟨mw_By_at, (tb_in 283 (by decide +kernel) rfl), (tb_in 284 (by decide +kernel) rfl), (tb_in 285 (by decide +kernel) rfl), _, rfl, rfl⟩
set_option maxRecDepth 100000 in
theorem mw_Str_length : MW y_Str_length b_Str_length 1 (some .int) 0 := ⟨tb_in 417 rfl rfl, (tb_in 45 (by decide +kernel) rfl), ⟨by decide +kernel, by decide +kernel, by decide +kernel⟩, (Nat.le_of_ble_eq_true rfl)⟩
theorem ct_By_46 : CT "SendPolicy$Bytes" 46 y_Str_length b_Str_length 1 (some .int) 0 := ⟨mw_Str_length, (tb_in 414 (by decide +kernel) rfl), (tb_in 415 (by decide +kernel) rfl), (tb_in 416 (by decide +kernel) rfl), rfl⟩
set_option maxRecDepth 100000 in
theorem mw_Str_charAt : MW y_Str_charAt b_Str_charAt 2 (some .char) 1 := ⟨tb_in 427 rfl rfl, (tb_in 45 (by decide +kernel) rfl), ⟨by decide +kernel, by decide +kernel, by decide +kernel⟩, (Nat.le_of_ble_eq_true rfl)⟩
theorem ct_By_52 : CT "SendPolicy$Bytes" 52 y_Str_charAt b_Str_charAt 2 (some .char) 1 := ⟨mw_Str_charAt, (tb_in 424 (by decide +kernel) rfl), (tb_in 425 (by decide +kernel) rfl), (tb_in 426 (by decide +kernel) rfl), rfl⟩
theorem lm_By_1 : Cond.methodLink "SendPolicy$Bytes" 1 ⟨"java/lang/Object", "<init>", "()V"⟩ ∈ TB := (tb_in 62 (by decide +kernel) rfl)
theorem ff_By_0 : FF "SendPolicy$Bytes" cBy 0 := fun C T N h => by
  have h2 : some (R_By, F_By, 3) = some (C, T, N) := h
  cases h2
  exact ⟨rfl, rfl⟩
theorem cv_Si_18 : CV "SendPolicy$Signs" 18 y_By_at b_By_at 2 (some .int) 1 cBy := ⟨mw_By_at, (tb_in 293 (by decide +kernel) rfl), (tb_in 284 (by decide +kernel) rfl), (tb_in 285 (by decide +kernel) rfl), _, rfl, rfl⟩
set_option maxRecDepth 100000 in
theorem mw_Si_isNameSign : MW y_Si_isNameSign b_Si_isNameSign 1 (some .boolean) 1 := ⟨tb_in 296 rfl rfl, (tb_in 43 (by decide +kernel) rfl), ⟨by decide +kernel, by decide +kernel, by decide +kernel⟩, (Nat.le_of_ble_eq_true rfl)⟩
theorem cs_Si_24 : CS "SendPolicy$Signs" 24 y_Si_isNameSign b_Si_isNameSign 1 (some .boolean) 1 := ⟨mw_Si_isNameSign, (tb_in 294 (by decide +kernel) rfl), (tb_in 295 (by decide +kernel) rfl)⟩
set_option maxRecDepth 100000 in
theorem mw_Si_isLetter : MW y_Si_isLetter b_Si_isLetter 1 (some .boolean) 1 := ⟨tb_in 299 rfl rfl, (tb_in 43 (by decide +kernel) rfl), ⟨by decide +kernel, by decide +kernel, by decide +kernel⟩, (Nat.le_of_ble_eq_true rfl)⟩
theorem cs_Si_9 : CS "SendPolicy$Signs" 9 y_Si_isLetter b_Si_isLetter 1 (some .boolean) 1 := ⟨mw_Si_isLetter, (tb_in 297 (by decide +kernel) rfl), (tb_in 298 (by decide +kernel) rfl)⟩
set_option maxRecDepth 100000 in
theorem mw_Si_isDigit : MW y_Si_isDigit b_Si_isDigit 1 (some .boolean) 1 := ⟨tb_in 302 rfl rfl, (tb_in 43 (by decide +kernel) rfl), ⟨by decide +kernel, by decide +kernel, by decide +kernel⟩, (Nat.le_of_ble_eq_true rfl)⟩
theorem cs_Si_15 : CS "SendPolicy$Signs" 15 y_Si_isDigit b_Si_isDigit 1 (some .boolean) 1 := ⟨mw_Si_isDigit, (tb_in 300 (by decide +kernel) rfl), (tb_in 301 (by decide +kernel) rfl)⟩
theorem cv_Ma_19 : CV "SendPolicy$Macros" 19 y_By_at b_By_at 2 (some .int) 1 cBy := ⟨mw_By_at, (tb_in 498 (by decide +kernel) rfl), (tb_in 284 (by decide +kernel) rfl), (tb_in 285 (by decide +kernel) rfl), _, rfl, rfl⟩
set_option maxRecDepth 100000 in
theorem mw_Ma_isMacroLetter : MW y_Ma_isMacroLetter b_Ma_isMacroLetter 1 (some .boolean) 1 := ⟨tb_in 504 rfl rfl, (tb_in 35 (by decide +kernel) rfl), ⟨by decide +kernel, by decide +kernel, by decide +kernel⟩, (Nat.le_of_ble_eq_true rfl)⟩
theorem cs_Ma_29 : CS "SendPolicy$Macros" 29 y_Ma_isMacroLetter b_Ma_isMacroLetter 1 (some .boolean) 1 := ⟨mw_Ma_isMacroLetter, (tb_in 502 (by decide +kernel) rfl), (tb_in 503 (by decide +kernel) rfl)⟩
set_option maxRecDepth 100000 in
theorem mw_Ma_isPartNumber : MW y_Ma_isPartNumber b_Ma_isPartNumber 1 (some .boolean) 1 := ⟨tb_in 507 rfl rfl, (tb_in 35 (by decide +kernel) rfl), ⟨by decide +kernel, by decide +kernel, by decide +kernel⟩, (Nat.le_of_ble_eq_true rfl)⟩
theorem cs_Ma_33 : CS "SendPolicy$Macros" 33 y_Ma_isPartNumber b_Ma_isPartNumber 1 (some .boolean) 1 := ⟨mw_Ma_isPartNumber, (tb_in 505 (by decide +kernel) rfl), (tb_in 506 (by decide +kernel) rfl)⟩
set_option maxRecDepth 100000 in
theorem mw_Ma_macroLength : MW y_Ma_macroLength b_Ma_macroLength 5 (some .int) 3 := ⟨tb_in 501 rfl rfl, (tb_in 35 (by decide +kernel) rfl), ⟨by decide +kernel, by decide +kernel, by decide +kernel⟩, (Nat.le_of_ble_eq_true rfl)⟩
theorem cs_Ma_25 : CS "SendPolicy$Macros" 25 y_Ma_macroLength b_Ma_macroLength 5 (some .int) 3 := ⟨mw_Ma_macroLength, (tb_in 499 (by decide +kernel) rfl), (tb_in 500 (by decide +kernel) rfl)⟩
end
section
/-! DECODE ROWS: printed by wip/gen/names.py -/
theorem d_Arr_copyOf_0 : decode b_Arr_copyOf 0 = .ok (.iload_n 1, 1) := by decide +kernel
theorem d_Arr_copyOf_1 : decode b_Arr_copyOf 1 = .ok (.aload_n 0, 1) := by decide +kernel
theorem d_Arr_copyOf_2 : decode b_Arr_copyOf 2 = .ok (.arraylength, 1) := by decide +kernel
theorem d_Arr_copyOf_3 : decode b_Arr_copyOf 3 = .ok (.if_icmp .ne 11, 3) := by decide +kernel
theorem d_Arr_copyOf_6 : decode b_Arr_copyOf 6 = .ok (.aload_n 0, 1) := by decide +kernel
theorem d_Arr_copyOf_7 : decode b_Arr_copyOf 7 = .ok (.invokevirtual 310, 3) := by decide +kernel
theorem d_Arr_copyOf_10 : decode b_Arr_copyOf 10 = .ok (.checkcast 311, 3) := by decide +kernel
theorem d_Arr_copyOf_13 : decode b_Arr_copyOf 13 = .ok (.areturn, 1) := by decide +kernel
theorem d_Arr_copyOf_14 : decode b_Arr_copyOf 14 = .ok (.iload_n 1, 1) := by decide +kernel
theorem d_Arr_copyOf_15 : decode b_Arr_copyOf 15 = .ok (.newarray .byte, 2) := by decide +kernel
theorem d_Arr_copyOf_17 : decode b_Arr_copyOf 17 = .ok (.astore_n 2, 1) := by decide +kernel
theorem d_Arr_copyOf_18 : decode b_Arr_copyOf 18 = .ok (.aload_n 0, 1) := by decide +kernel
theorem d_Arr_copyOf_19 : decode b_Arr_copyOf 19 = .ok (.iconst 0, 1) := by decide +kernel
theorem d_Arr_copyOf_20 : decode b_Arr_copyOf 20 = .ok (.aload_n 2, 1) := by decide +kernel
theorem d_Arr_copyOf_21 : decode b_Arr_copyOf 21 = .ok (.iconst 0, 1) := by decide +kernel
theorem d_Arr_copyOf_22 : decode b_Arr_copyOf 22 = .ok (.aload_n 0, 1) := by decide +kernel
theorem d_Arr_copyOf_23 : decode b_Arr_copyOf 23 = .ok (.arraylength, 1) := by decide +kernel
theorem d_Arr_copyOf_24 : decode b_Arr_copyOf 24 = .ok (.iload_n 1, 1) := by decide +kernel
theorem d_Arr_copyOf_25 : decode b_Arr_copyOf 25 = .ok (.invokestatic 304, 3) := by decide +kernel
theorem d_Arr_copyOf_28 : decode b_Arr_copyOf 28 = .ok (.invokestatic 150, 3) := by decide +kernel
theorem d_Arr_copyOf_31 : decode b_Arr_copyOf 31 = .ok (.aload_n 2, 1) := by decide +kernel
theorem d_Arr_copyOf_32 : decode b_Arr_copyOf 32 = .ok (.areturn, 1) := by decide +kernel
theorem d_Str_coder_0 : decode b_Str_coder 0 = .ok (.getstatic 38, 3) := by decide +kernel
theorem d_Str_coder_3 : decode b_Str_coder 3 = .ok (.ifCond .eq 10, 3) := by decide +kernel
theorem d_Str_coder_6 : decode b_Str_coder 6 = .ok (.aload_n 0, 1) := by decide +kernel
theorem d_Str_coder_7 : decode b_Str_coder 7 = .ok (.getfield 15, 3) := by decide +kernel
theorem d_Str_coder_10 : decode b_Str_coder 10 = .ok (.goto 4, 3) := by decide +kernel
theorem d_Str_coder_13 : decode b_Str_coder 13 = .ok (.iconst 1, 1) := by decide +kernel
theorem d_Str_coder_14 : decode b_Str_coder 14 = .ok (.ireturn, 1) := by decide +kernel
theorem d_Str_isLatin1_0 : decode b_Str_isLatin1 0 = .ok (.getstatic 38, 3) := by decide +kernel
theorem d_Str_isLatin1_3 : decode b_Str_isLatin1 3 = .ok (.ifCond .eq 14, 3) := by decide +kernel
theorem d_Str_isLatin1_6 : decode b_Str_isLatin1 6 = .ok (.aload_n 0, 1) := by decide +kernel
theorem d_Str_isLatin1_7 : decode b_Str_isLatin1 7 = .ok (.getfield 15, 3) := by decide +kernel
theorem d_Str_isLatin1_10 : decode b_Str_isLatin1 10 = .ok (.ifCond .ne 7, 3) := by decide +kernel
theorem d_Str_isLatin1_13 : decode b_Str_isLatin1 13 = .ok (.iconst 1, 1) := by decide +kernel
theorem d_Str_isLatin1_14 : decode b_Str_isLatin1 14 = .ok (.goto 4, 3) := by decide +kernel
theorem d_Str_isLatin1_17 : decode b_Str_isLatin1 17 = .ok (.iconst 0, 1) := by decide +kernel
theorem d_Str_isLatin1_18 : decode b_Str_isLatin1 18 = .ok (.ireturn, 1) := by decide +kernel
theorem d_Str_length_0 : decode b_Str_length 0 = .ok (.aload_n 0, 1) := by decide +kernel
theorem d_Str_length_1 : decode b_Str_length 1 = .ok (.getfield 9, 3) := by decide +kernel
theorem d_Str_length_4 : decode b_Str_length 4 = .ok (.arraylength, 1) := by decide +kernel
theorem d_Str_length_5 : decode b_Str_length 5 = .ok (.aload_n 0, 1) := by decide +kernel
theorem d_Str_length_6 : decode b_Str_length 6 = .ok (.invokevirtual 335, 3) := by decide +kernel
theorem d_Str_length_9 : decode b_Str_length 9 = .ok (.ishr, 1) := by decide +kernel
theorem d_Str_length_10 : decode b_Str_length 10 = .ok (.ireturn, 1) := by decide +kernel
theorem d_SL_charAt_0 : decode b_SL_charAt 0 = .ok (.iload_n 1, 1) := by decide +kernel
theorem d_SL_charAt_1 : decode b_SL_charAt 1 = .ok (.aload_n 0, 1) := by decide +kernel
theorem d_SL_charAt_2 : decode b_SL_charAt 2 = .ok (.arraylength, 1) := by decide +kernel
theorem d_SL_charAt_3 : decode b_SL_charAt 3 = .ok (.invokestatic 9, 3) := by decide +kernel
theorem d_SL_charAt_6 : decode b_SL_charAt 6 = .ok (.aload_n 0, 1) := by decide +kernel
theorem d_SL_charAt_7 : decode b_SL_charAt 7 = .ok (.iload_n 1, 1) := by decide +kernel
theorem d_SL_charAt_8 : decode b_SL_charAt 8 = .ok (.baload, 1) := by decide +kernel
theorem d_SL_charAt_9 : decode b_SL_charAt 9 = .ok (.sipush 255, 3) := by decide +kernel
theorem d_SL_charAt_12 : decode b_SL_charAt 12 = .ok (.iand, 1) := by decide +kernel
theorem d_SL_charAt_13 : decode b_SL_charAt 13 = .ok (.i2c, 1) := by decide +kernel
theorem d_SL_charAt_14 : decode b_SL_charAt 14 = .ok (.ireturn, 1) := by decide +kernel
theorem d_Str_charAt_0 : decode b_Str_charAt 0 = .ok (.aload_n 0, 1) := by decide +kernel
theorem d_Str_charAt_1 : decode b_Str_charAt 1 = .ok (.invokevirtual 492, 3) := by decide +kernel
theorem d_Str_charAt_4 : decode b_Str_charAt 4 = .ok (.ifCond .eq 12, 3) := by decide +kernel
theorem d_Str_charAt_7 : decode b_Str_charAt 7 = .ok (.aload_n 0, 1) := by decide +kernel
theorem d_Str_charAt_8 : decode b_Str_charAt 8 = .ok (.getfield 9, 3) := by decide +kernel
theorem d_Str_charAt_11 : decode b_Str_charAt 11 = .ok (.iload_n 1, 1) := by decide +kernel
theorem d_Str_charAt_12 : decode b_Str_charAt 12 = .ok (.invokestatic 495, 3) := by decide +kernel
theorem d_Str_charAt_15 : decode b_Str_charAt 15 = .ok (.ireturn, 1) := by decide +kernel
theorem d_Str_charAt_16 : decode b_Str_charAt 16 = .ok (.aload_n 0, 1) := by decide +kernel
theorem d_Str_charAt_17 : decode b_Str_charAt 17 = .ok (.getfield 9, 3) := by decide +kernel
theorem d_Str_charAt_20 : decode b_Str_charAt 20 = .ok (.iload_n 1, 1) := by decide +kernel
theorem d_Str_charAt_21 : decode b_Str_charAt 21 = .ok (.invokestatic 498, 3) := by decide +kernel
theorem d_Str_charAt_24 : decode b_Str_charAt 24 = .ok (.ireturn, 1) := by decide +kernel
theorem d_Str_checkIndex_0 : decode b_Str_checkIndex 0 = .ok (.iload_n 0, 1) := by decide +kernel
theorem d_Str_checkIndex_1 : decode b_Str_checkIndex 1 = .ok (.iload_n 1, 1) := by decide +kernel
theorem d_Str_checkIndex_2 : decode b_Str_checkIndex 2 = .ok (.getstatic 1053, 3) := by decide +kernel
theorem d_Str_checkIndex_5 : decode b_Str_checkIndex 5 = .ok (.invokestatic 1059, 3) := by decide +kernel
theorem d_Str_checkIndex_8 : decode b_Str_checkIndex 8 = .ok (.pop, 1) := by decide +kernel
theorem d_Str_checkIndex_9 : decode b_Str_checkIndex 9 = .ok (.return_, 1) := by decide +kernel
theorem d_Pre_checkIndex_0 : decode b_Pre_checkIndex 0 = .ok (.iload_n 0, 1) := by decide +kernel
theorem d_Pre_checkIndex_1 : decode b_Pre_checkIndex 1 = .ok (.ifCond .lt 8, 3) := by decide +kernel
theorem d_Pre_checkIndex_4 : decode b_Pre_checkIndex 4 = .ok (.iload_n 0, 1) := by decide +kernel
theorem d_Pre_checkIndex_5 : decode b_Pre_checkIndex 5 = .ok (.iload_n 1, 1) := by decide +kernel
theorem d_Pre_checkIndex_6 : decode b_Pre_checkIndex 6 = .ok (.if_icmp .lt 10, 3) := by decide +kernel
theorem d_Pre_checkIndex_9 : decode b_Pre_checkIndex 9 = .ok (.aload_n 2, 1) := by decide +kernel
theorem d_Pre_checkIndex_10 : decode b_Pre_checkIndex 10 = .ok (.iload_n 0, 1) := by decide +kernel
theorem d_Pre_checkIndex_11 : decode b_Pre_checkIndex 11 = .ok (.iload_n 1, 1) := by decide +kernel
theorem d_Pre_checkIndex_12 : decode b_Pre_checkIndex 12 = .ok (.invokestatic 95, 3) := by decide +kernel
theorem d_Pre_checkIndex_15 : decode b_Pre_checkIndex 15 = .ok (.athrow, 1) := by decide +kernel
theorem d_Pre_checkIndex_16 : decode b_Pre_checkIndex 16 = .ok (.iload_n 0, 1) := by decide +kernel
theorem d_Pre_checkIndex_17 : decode b_Pre_checkIndex 17 = .ok (.ireturn, 1) := by decide +kernel
theorem d_By_add_0 : decode b_By_add 0 = .ok (.aload_n 0, 1) := by decide +kernel
theorem d_By_add_1 : decode b_By_add 1 = .ok (.getfield 23, 3) := by decide +kernel
theorem d_By_add_4 : decode b_By_add 4 = .ok (.aload_n 0, 1) := by decide +kernel
theorem d_By_add_5 : decode b_By_add 5 = .ok (.getfield 7, 3) := by decide +kernel
theorem d_By_add_8 : decode b_By_add 8 = .ok (.if_icmp .lt 4, 3) := by decide +kernel
theorem d_By_add_11 : decode b_By_add 11 = .ok (.return_, 1) := by decide +kernel
theorem d_By_add_12 : decode b_By_add 12 = .ok (.aload_n 0, 1) := by decide +kernel
theorem d_By_add_13 : decode b_By_add 13 = .ok (.getfield 23, 3) := by decide +kernel
theorem d_By_add_16 : decode b_By_add 16 = .ok (.aload_n 0, 1) := by decide +kernel
theorem d_By_add_17 : decode b_By_add 17 = .ok (.getfield 19, 3) := by decide +kernel
theorem d_By_add_20 : decode b_By_add 20 = .ok (.arraylength, 1) := by decide +kernel
theorem d_By_add_21 : decode b_By_add 21 = .ok (.if_icmp .lt 29, 3) := by decide +kernel
theorem d_By_add_24 : decode b_By_add 24 = .ok (.aload_n 0, 1) := by decide +kernel
theorem d_By_add_25 : decode b_By_add 25 = .ok (.aload_n 0, 1) := by decide +kernel
theorem d_By_add_26 : decode b_By_add 26 = .ok (.getfield 19, 3) := by decide +kernel
theorem d_By_add_29 : decode b_By_add 29 = .ok (.aload_n 0, 1) := by decide +kernel
theorem d_By_add_30 : decode b_By_add 30 = .ok (.getfield 7, 3) := by decide +kernel
theorem d_By_add_33 : decode b_By_add 33 = .ok (.iconst 2, 1) := by decide +kernel
theorem d_By_add_34 : decode b_By_add 34 = .ok (.aload_n 0, 1) := by decide +kernel
theorem d_By_add_35 : decode b_By_add 35 = .ok (.getfield 23, 3) := by decide +kernel
theorem d_By_add_38 : decode b_By_add 38 = .ok (.imul, 1) := by decide +kernel
theorem d_By_add_39 : decode b_By_add 39 = .ok (.iconst 1, 1) := by decide +kernel
theorem d_By_add_40 : decode b_By_add 40 = .ok (.iadd, 1) := by decide +kernel
theorem d_By_add_41 : decode b_By_add 41 = .ok (.invokestatic 13, 3) := by decide +kernel
theorem d_By_add_44 : decode b_By_add 44 = .ok (.invokestatic 26, 3) := by decide +kernel
theorem d_By_add_47 : decode b_By_add 47 = .ok (.putfield 19, 3) := by decide +kernel
theorem d_By_add_50 : decode b_By_add 50 = .ok (.aload_n 0, 1) := by decide +kernel
theorem d_By_add_51 : decode b_By_add 51 = .ok (.getfield 19, 3) := by decide +kernel
theorem d_By_add_54 : decode b_By_add 54 = .ok (.aload_n 0, 1) := by decide +kernel
theorem d_By_add_55 : decode b_By_add 55 = .ok (.getfield 23, 3) := by decide +kernel
theorem d_By_add_58 : decode b_By_add 58 = .ok (.iload_n 1, 1) := by decide +kernel
theorem d_By_add_59 : decode b_By_add 59 = .ok (.i2b, 1) := by decide +kernel
theorem d_By_add_60 : decode b_By_add 60 = .ok (.bastore, 1) := by decide +kernel
theorem d_By_add_61 : decode b_By_add 61 = .ok (.aload_n 0, 1) := by decide +kernel
theorem d_By_add_62 : decode b_By_add 62 = .ok (.dup, 1) := by decide +kernel
theorem d_By_add_63 : decode b_By_add 63 = .ok (.getfield 23, 3) := by decide +kernel
theorem d_By_add_66 : decode b_By_add 66 = .ok (.iconst 1, 1) := by decide +kernel
theorem d_By_add_67 : decode b_By_add 67 = .ok (.iadd, 1) := by decide +kernel
theorem d_By_add_68 : decode b_By_add 68 = .ok (.putfield 23, 3) := by decide +kernel
theorem d_By_add_71 : decode b_By_add 71 = .ok (.return_, 1) := by decide +kernel
theorem d_By_addFour_0 : decode b_By_addFour 0 = .ok (.aload_n 0, 1) := by decide +kernel
theorem d_By_addFour_1 : decode b_By_addFour 1 = .ok (.iload_n 1, 1) := by decide +kernel
theorem d_By_addFour_2 : decode b_By_addFour 2 = .ok (.bipush 24, 2) := by decide +kernel
theorem d_By_addFour_4 : decode b_By_addFour 4 = .ok (.iushr, 1) := by decide +kernel
theorem d_By_addFour_5 : decode b_By_addFour 5 = .ok (.invokevirtual 32, 3) := by decide +kernel
theorem d_By_addFour_8 : decode b_By_addFour 8 = .ok (.aload_n 0, 1) := by decide +kernel
theorem d_By_addFour_9 : decode b_By_addFour 9 = .ok (.iload_n 1, 1) := by decide +kernel
theorem d_By_addFour_10 : decode b_By_addFour 10 = .ok (.bipush 16, 2) := by decide +kernel
theorem d_By_addFour_12 : decode b_By_addFour 12 = .ok (.iushr, 1) := by decide +kernel
theorem d_By_addFour_13 : decode b_By_addFour 13 = .ok (.invokevirtual 32, 3) := by decide +kernel
theorem d_By_addFour_16 : decode b_By_addFour 16 = .ok (.aload_n 0, 1) := by decide +kernel
theorem d_By_addFour_17 : decode b_By_addFour 17 = .ok (.iload_n 1, 1) := by decide +kernel
theorem d_By_addFour_18 : decode b_By_addFour 18 = .ok (.bipush 8, 2) := by decide +kernel
theorem d_By_addFour_20 : decode b_By_addFour 20 = .ok (.iushr, 1) := by decide +kernel
theorem d_By_addFour_21 : decode b_By_addFour 21 = .ok (.invokevirtual 32, 3) := by decide +kernel
theorem d_By_addFour_24 : decode b_By_addFour 24 = .ok (.aload_n 0, 1) := by decide +kernel
theorem d_By_addFour_25 : decode b_By_addFour 25 = .ok (.iload_n 1, 1) := by decide +kernel
theorem d_By_addFour_26 : decode b_By_addFour 26 = .ok (.invokevirtual 32, 3) := by decide +kernel
theorem d_By_addFour_29 : decode b_By_addFour 29 = .ok (.return_, 1) := by decide +kernel
theorem d_By_addNumber_0 : decode b_By_addNumber 0 = .ok (.iload_n 1, 1) := by decide +kernel
theorem d_By_addNumber_1 : decode b_By_addNumber 1 = .ok (.bipush 100, 2) := by decide +kernel
theorem d_By_addNumber_3 : decode b_By_addNumber 3 = .ok (.if_icmp .lt 14, 3) := by decide +kernel
theorem d_By_addNumber_6 : decode b_By_addNumber 6 = .ok (.aload_n 0, 1) := by decide +kernel
theorem d_By_addNumber_7 : decode b_By_addNumber 7 = .ok (.bipush 48, 2) := by decide +kernel
theorem d_By_addNumber_9 : decode b_By_addNumber 9 = .ok (.iload_n 1, 1) := by decide +kernel
theorem d_By_addNumber_10 : decode b_By_addNumber 10 = .ok (.bipush 100, 2) := by decide +kernel
theorem d_By_addNumber_12 : decode b_By_addNumber 12 = .ok (.idiv, 1) := by decide +kernel
theorem d_By_addNumber_13 : decode b_By_addNumber 13 = .ok (.iadd, 1) := by decide +kernel
theorem d_By_addNumber_14 : decode b_By_addNumber 14 = .ok (.invokevirtual 32, 3) := by decide +kernel
theorem d_By_addNumber_17 : decode b_By_addNumber 17 = .ok (.iload_n 1, 1) := by decide +kernel
theorem d_By_addNumber_18 : decode b_By_addNumber 18 = .ok (.bipush 10, 2) := by decide +kernel
theorem d_By_addNumber_20 : decode b_By_addNumber 20 = .ok (.if_icmp .lt 17, 3) := by decide +kernel
theorem d_By_addNumber_23 : decode b_By_addNumber 23 = .ok (.aload_n 0, 1) := by decide +kernel
theorem d_By_addNumber_24 : decode b_By_addNumber 24 = .ok (.bipush 48, 2) := by decide +kernel
theorem d_By_addNumber_26 : decode b_By_addNumber 26 = .ok (.iload_n 1, 1) := by decide +kernel
theorem d_By_addNumber_27 : decode b_By_addNumber 27 = .ok (.bipush 10, 2) := by decide +kernel
theorem d_By_addNumber_29 : decode b_By_addNumber 29 = .ok (.idiv, 1) := by decide +kernel
theorem d_By_addNumber_30 : decode b_By_addNumber 30 = .ok (.bipush 10, 2) := by decide +kernel
theorem d_By_addNumber_32 : decode b_By_addNumber 32 = .ok (.irem, 1) := by decide +kernel
theorem d_By_addNumber_33 : decode b_By_addNumber 33 = .ok (.iadd, 1) := by decide +kernel
theorem d_By_addNumber_34 : decode b_By_addNumber 34 = .ok (.invokevirtual 32, 3) := by decide +kernel
theorem d_By_addNumber_37 : decode b_By_addNumber 37 = .ok (.aload_n 0, 1) := by decide +kernel
theorem d_By_addNumber_38 : decode b_By_addNumber 38 = .ok (.bipush 48, 2) := by decide +kernel
theorem d_By_addNumber_40 : decode b_By_addNumber 40 = .ok (.iload_n 1, 1) := by decide +kernel
theorem d_By_addNumber_41 : decode b_By_addNumber 41 = .ok (.bipush 10, 2) := by decide +kernel
theorem d_By_addNumber_43 : decode b_By_addNumber 43 = .ok (.irem, 1) := by decide +kernel
theorem d_By_addNumber_44 : decode b_By_addNumber 44 = .ok (.iadd, 1) := by decide +kernel
theorem d_By_addNumber_45 : decode b_By_addNumber 45 = .ok (.invokevirtual 32, 3) := by decide +kernel
theorem d_By_addNumber_48 : decode b_By_addNumber 48 = .ok (.return_, 1) := by decide +kernel
theorem d_By_addPart_0 : decode b_By_addPart 0 = .ok (.iload_n 2, 1) := by decide +kernel
theorem d_By_addPart_1 : decode b_By_addPart 1 = .ok (.ifCond .lt 16, 3) := by decide +kernel
theorem d_By_addPart_4 : decode b_By_addPart 4 = .ok (.iload_n 2, 1) := by decide +kernel
theorem d_By_addPart_5 : decode b_By_addPart 5 = .ok (.iload_n 3, 1) := by decide +kernel
theorem d_By_addPart_6 : decode b_By_addPart 6 = .ok (.if_icmp .ge 11, 3) := by decide +kernel
theorem d_By_addPart_9 : decode b_By_addPart 9 = .ok (.iload_n 3, 1) := by decide +kernel
theorem d_By_addPart_10 : decode b_By_addPart 10 = .ok (.aload_n 1, 1) := by decide +kernel
theorem d_By_addPart_11 : decode b_By_addPart 11 = .ok (.getfield 23, 3) := by decide +kernel
theorem d_By_addPart_14 : decode b_By_addPart 14 = .ok (.if_icmp .le 4, 3) := by decide +kernel
theorem d_By_addPart_17 : decode b_By_addPart 17 = .ok (.return_, 1) := by decide +kernel
theorem d_By_addPart_18 : decode b_By_addPart 18 = .ok (.iload_n 3, 1) := by decide +kernel
theorem d_By_addPart_19 : decode b_By_addPart 19 = .ok (.iload_n 2, 1) := by decide +kernel
theorem d_By_addPart_20 : decode b_By_addPart 20 = .ok (.isub, 1) := by decide +kernel
theorem d_By_addPart_21 : decode b_By_addPart 21 = .ok (.aload_n 0, 1) := by decide +kernel
theorem d_By_addPart_22 : decode b_By_addPart 22 = .ok (.getfield 7, 3) := by decide +kernel
theorem d_By_addPart_25 : decode b_By_addPart 25 = .ok (.aload_n 0, 1) := by decide +kernel
theorem d_By_addPart_26 : decode b_By_addPart 26 = .ok (.getfield 23, 3) := by decide +kernel
theorem d_By_addPart_29 : decode b_By_addPart 29 = .ok (.isub, 1) := by decide +kernel
theorem d_By_addPart_30 : decode b_By_addPart 30 = .ok (.invokestatic 13, 3) := by decide +kernel
theorem d_By_addPart_33 : decode b_By_addPart 33 = .ok (.istore 4, 2) := by decide +kernel
theorem d_By_addPart_35 : decode b_By_addPart 35 = .ok (.aload_n 0, 1) := by decide +kernel
theorem d_By_addPart_36 : decode b_By_addPart 36 = .ok (.getfield 23, 3) := by decide +kernel
theorem d_By_addPart_39 : decode b_By_addPart 39 = .ok (.iload 4, 2) := by decide +kernel
theorem d_By_addPart_41 : decode b_By_addPart 41 = .ok (.iadd, 1) := by decide +kernel
theorem d_By_addPart_42 : decode b_By_addPart 42 = .ok (.aload_n 0, 1) := by decide +kernel
theorem d_By_addPart_43 : decode b_By_addPart 43 = .ok (.getfield 19, 3) := by decide +kernel
theorem d_By_addPart_46 : decode b_By_addPart 46 = .ok (.arraylength, 1) := by decide +kernel
theorem d_By_addPart_47 : decode b_By_addPart 47 = .ok (.if_icmp .le 30, 3) := by decide +kernel
theorem d_By_addPart_50 : decode b_By_addPart 50 = .ok (.aload_n 0, 1) := by decide +kernel
theorem d_By_addPart_51 : decode b_By_addPart 51 = .ok (.aload_n 0, 1) := by decide +kernel
theorem d_By_addPart_52 : decode b_By_addPart 52 = .ok (.getfield 19, 3) := by decide +kernel
theorem d_By_addPart_55 : decode b_By_addPart 55 = .ok (.aload_n 0, 1) := by decide +kernel
theorem d_By_addPart_56 : decode b_By_addPart 56 = .ok (.getfield 7, 3) := by decide +kernel
theorem d_By_addPart_59 : decode b_By_addPart 59 = .ok (.iconst 2, 1) := by decide +kernel
theorem d_By_addPart_60 : decode b_By_addPart 60 = .ok (.aload_n 0, 1) := by decide +kernel
theorem d_By_addPart_61 : decode b_By_addPart 61 = .ok (.getfield 23, 3) := by decide +kernel
theorem d_By_addPart_64 : decode b_By_addPart 64 = .ok (.iload 4, 2) := by decide +kernel
theorem d_By_addPart_66 : decode b_By_addPart 66 = .ok (.iadd, 1) := by decide +kernel
theorem d_By_addPart_67 : decode b_By_addPart 67 = .ok (.imul, 1) := by decide +kernel
theorem d_By_addPart_68 : decode b_By_addPart 68 = .ok (.invokestatic 13, 3) := by decide +kernel
theorem d_By_addPart_71 : decode b_By_addPart 71 = .ok (.invokestatic 26, 3) := by decide +kernel
theorem d_By_addPart_74 : decode b_By_addPart 74 = .ok (.putfield 19, 3) := by decide +kernel
theorem d_By_addPart_77 : decode b_By_addPart 77 = .ok (.aload_n 1, 1) := by decide +kernel
theorem d_By_addPart_78 : decode b_By_addPart 78 = .ok (.getfield 19, 3) := by decide +kernel
theorem d_By_addPart_81 : decode b_By_addPart 81 = .ok (.iload_n 2, 1) := by decide +kernel
theorem d_By_addPart_82 : decode b_By_addPart 82 = .ok (.aload_n 0, 1) := by decide +kernel
theorem d_By_addPart_83 : decode b_By_addPart 83 = .ok (.getfield 19, 3) := by decide +kernel
theorem d_By_addPart_86 : decode b_By_addPart 86 = .ok (.aload_n 0, 1) := by decide +kernel
theorem d_By_addPart_87 : decode b_By_addPart 87 = .ok (.getfield 23, 3) := by decide +kernel
theorem d_By_addPart_90 : decode b_By_addPart 90 = .ok (.iload 4, 2) := by decide +kernel
theorem d_By_addPart_92 : decode b_By_addPart 92 = .ok (.invokestatic 36, 3) := by decide +kernel
theorem d_By_addPart_95 : decode b_By_addPart 95 = .ok (.aload_n 0, 1) := by decide +kernel
theorem d_By_addPart_96 : decode b_By_addPart 96 = .ok (.dup, 1) := by decide +kernel
theorem d_By_addPart_97 : decode b_By_addPart 97 = .ok (.getfield 23, 3) := by decide +kernel
theorem d_By_addPart_100 : decode b_By_addPart 100 = .ok (.iload 4, 2) := by decide +kernel
theorem d_By_addPart_102 : decode b_By_addPart 102 = .ok (.iadd, 1) := by decide +kernel
theorem d_By_addPart_103 : decode b_By_addPart 103 = .ok (.putfield 23, 3) := by decide +kernel
theorem d_By_addPart_106 : decode b_By_addPart 106 = .ok (.return_, 1) := by decide +kernel
theorem d_By_at_0 : decode b_By_at 0 = .ok (.iload_n 1, 1) := by decide +kernel
theorem d_By_at_1 : decode b_By_at 1 = .ok (.ifCond .lt 11, 3) := by decide +kernel
theorem d_By_at_4 : decode b_By_at 4 = .ok (.iload_n 1, 1) := by decide +kernel
theorem d_By_at_5 : decode b_By_at 5 = .ok (.aload_n 0, 1) := by decide +kernel
theorem d_By_at_6 : decode b_By_at 6 = .ok (.getfield 23, 3) := by decide +kernel
theorem d_By_at_9 : decode b_By_at 9 = .ok (.if_icmp .lt 7, 3) := by decide +kernel
theorem d_By_at_12 : decode b_By_at 12 = .ok (.iconst (-1), 1) := by decide +kernel
theorem d_By_at_13 : decode b_By_at 13 = .ok (.goto 13, 3) := by decide +kernel
theorem d_By_at_16 : decode b_By_at 16 = .ok (.aload_n 0, 1) := by decide +kernel
theorem d_By_at_17 : decode b_By_at 17 = .ok (.getfield 19, 3) := by decide +kernel
theorem d_By_at_20 : decode b_By_at 20 = .ok (.iload_n 1, 1) := by decide +kernel
theorem d_By_at_21 : decode b_By_at 21 = .ok (.baload, 1) := by decide +kernel
theorem d_By_at_22 : decode b_By_at 22 = .ok (.sipush 255, 3) := by decide +kernel
theorem d_By_at_25 : decode b_By_at 25 = .ok (.iand, 1) := by decide +kernel
theorem d_By_at_26 : decode b_By_at 26 = .ok (.ireturn, 1) := by decide +kernel
theorem d_By_cut_0 : decode b_By_cut 0 = .ok (.iload_n 1, 1) := by decide +kernel
theorem d_By_cut_1 : decode b_By_cut 1 = .ok (.ifCond .lt 16, 3) := by decide +kernel
theorem d_By_cut_4 : decode b_By_cut 4 = .ok (.iload_n 1, 1) := by decide +kernel
theorem d_By_cut_5 : decode b_By_cut 5 = .ok (.aload_n 0, 1) := by decide +kernel
theorem d_By_cut_6 : decode b_By_cut 6 = .ok (.getfield 23, 3) := by decide +kernel
theorem d_By_cut_9 : decode b_By_cut 9 = .ok (.if_icmp .ge 8, 3) := by decide +kernel
theorem d_By_cut_12 : decode b_By_cut 12 = .ok (.aload_n 0, 1) := by decide +kernel
theorem d_By_cut_13 : decode b_By_cut 13 = .ok (.iload_n 1, 1) := by decide +kernel
theorem d_By_cut_14 : decode b_By_cut 14 = .ok (.putfield 23, 3) := by decide +kernel
theorem d_By_cut_17 : decode b_By_cut 17 = .ok (.return_, 1) := by decide +kernel
theorem d_By_find_0 : decode b_By_find 0 = .ok (.iload_n 2, 1) := by decide +kernel
theorem d_By_find_1 : decode b_By_find 1 = .ok (.istore 4, 2) := by decide +kernel
theorem d_By_find_3 : decode b_By_find 3 = .ok (.iload 4, 2) := by decide +kernel
theorem d_By_find_5 : decode b_By_find 5 = .ok (.iload_n 3, 1) := by decide +kernel
theorem d_By_find_6 : decode b_By_find 6 = .ok (.if_icmp .ge 22, 3) := by decide +kernel
theorem d_By_find_9 : decode b_By_find 9 = .ok (.aload_n 0, 1) := by decide +kernel
theorem d_By_find_10 : decode b_By_find 10 = .ok (.iload 4, 2) := by decide +kernel
theorem d_By_find_12 : decode b_By_find 12 = .ok (.invokevirtual 42, 3) := by decide +kernel
theorem d_By_find_15 : decode b_By_find 15 = .ok (.iload_n 1, 1) := by decide +kernel
theorem d_By_find_16 : decode b_By_find 16 = .ok (.if_icmp .ne 6, 3) := by decide +kernel
theorem d_By_find_19 : decode b_By_find 19 = .ok (.iload 4, 2) := by decide +kernel
theorem d_By_find_21 : decode b_By_find 21 = .ok (.ireturn, 1) := by decide +kernel
theorem d_By_find_22 : decode b_By_find 22 = .ok (.iinc 4 1, 3) := by decide +kernel
theorem d_By_find_25 : decode b_By_find 25 = .ok (.goto (-22), 3) := by decide +kernel
theorem d_By_find_28 : decode b_By_find 28 = .ok (.iload_n 3, 1) := by decide +kernel
theorem d_By_find_29 : decode b_By_find 29 = .ok (.ireturn, 1) := by decide +kernel
theorem d_By_has_0 : decode b_By_has 0 = .ok (.iload_n 3, 1) := by decide +kernel
theorem d_By_has_1 : decode b_By_has 1 = .ok (.iload_n 2, 1) := by decide +kernel
theorem d_By_has_2 : decode b_By_has 2 = .ok (.isub, 1) := by decide +kernel
theorem d_By_has_3 : decode b_By_has 3 = .ok (.aload_n 1, 1) := by decide +kernel
theorem d_By_has_4 : decode b_By_has 4 = .ok (.invokevirtual 46, 3) := by decide +kernel
theorem d_By_has_7 : decode b_By_has 7 = .ok (.if_icmp .ge 5, 3) := by decide +kernel
theorem d_By_has_10 : decode b_By_has 10 = .ok (.iconst 0, 1) := by decide +kernel
theorem d_By_has_11 : decode b_By_has 11 = .ok (.ireturn, 1) := by decide +kernel
theorem d_By_has_12 : decode b_By_has 12 = .ok (.iconst 0, 1) := by decide +kernel
theorem d_By_has_13 : decode b_By_has 13 = .ok (.istore 4, 2) := by decide +kernel
theorem d_By_has_15 : decode b_By_has 15 = .ok (.iload 4, 2) := by decide +kernel
theorem d_By_has_17 : decode b_By_has 17 = .ok (.aload_n 1, 1) := by decide +kernel
theorem d_By_has_18 : decode b_By_has 18 = .ok (.invokevirtual 46, 3) := by decide +kernel
theorem d_By_has_21 : decode b_By_has 21 = .ok (.if_icmp .ge 28, 3) := by decide +kernel
theorem d_By_has_24 : decode b_By_has 24 = .ok (.aload_n 0, 1) := by decide +kernel
theorem d_By_has_25 : decode b_By_has 25 = .ok (.iload_n 2, 1) := by decide +kernel
theorem d_By_has_26 : decode b_By_has 26 = .ok (.iload 4, 2) := by decide +kernel
theorem d_By_has_28 : decode b_By_has 28 = .ok (.iadd, 1) := by decide +kernel
theorem d_By_has_29 : decode b_By_has 29 = .ok (.invokevirtual 42, 3) := by decide +kernel
theorem d_By_has_32 : decode b_By_has 32 = .ok (.aload_n 1, 1) := by decide +kernel
theorem d_By_has_33 : decode b_By_has 33 = .ok (.iload 4, 2) := by decide +kernel
theorem d_By_has_35 : decode b_By_has 35 = .ok (.invokevirtual 52, 3) := by decide +kernel
theorem d_By_has_38 : decode b_By_has 38 = .ok (.if_icmp .eq 5, 3) := by decide +kernel
theorem d_By_has_41 : decode b_By_has 41 = .ok (.iconst 0, 1) := by decide +kernel
theorem d_By_has_42 : decode b_By_has 42 = .ok (.ireturn, 1) := by decide +kernel
theorem d_By_has_43 : decode b_By_has 43 = .ok (.iinc 4 1, 3) := by decide +kernel
theorem d_By_has_46 : decode b_By_has 46 = .ok (.goto (-31), 3) := by decide +kernel
theorem d_By_has_49 : decode b_By_has 49 = .ok (.iconst 1, 1) := by decide +kernel
theorem d_By_has_50 : decode b_By_has 50 = .ok (.ireturn, 1) := by decide +kernel
theorem d_By_init_0 : decode b_By_init 0 = .ok (.aload_n 0, 1) := by decide +kernel
theorem d_By_init_1 : decode b_By_init 1 = .ok (.invokespecial 1, 3) := by decide +kernel
theorem d_By_init_4 : decode b_By_init 4 = .ok (.aload_n 0, 1) := by decide +kernel
theorem d_By_init_5 : decode b_By_init 5 = .ok (.iload_n 1, 1) := by decide +kernel
theorem d_By_init_6 : decode b_By_init 6 = .ok (.putfield 7, 3) := by decide +kernel
theorem d_By_init_9 : decode b_By_init 9 = .ok (.aload_n 0, 1) := by decide +kernel
theorem d_By_init_10 : decode b_By_init 10 = .ok (.iload_n 1, 1) := by decide +kernel
theorem d_By_init_11 : decode b_By_init 11 = .ok (.bipush 64, 2) := by decide +kernel
theorem d_By_init_13 : decode b_By_init 13 = .ok (.invokestatic 13, 3) := by decide +kernel
theorem d_By_init_16 : decode b_By_init 16 = .ok (.newarray .byte, 2) := by decide +kernel
theorem d_By_init_18 : decode b_By_init 18 = .ok (.putfield 19, 3) := by decide +kernel
theorem d_By_init_21 : decode b_By_init 21 = .ok (.aload_n 0, 1) := by decide +kernel
theorem d_By_init_22 : decode b_By_init 22 = .ok (.iconst 0, 1) := by decide +kernel
theorem d_By_init_23 : decode b_By_init 23 = .ok (.putfield 23, 3) := by decide +kernel
theorem d_By_init_26 : decode b_By_init 26 = .ok (.return_, 1) := by decide +kernel
theorem d_By_same_0 : decode b_By_same 0 = .ok (.aload_n 0, 1) := by decide +kernel
theorem d_By_same_1 : decode b_By_same 1 = .ok (.getfield 23, 3) := by decide +kernel
theorem d_By_same_4 : decode b_By_same 4 = .ok (.aload_n 1, 1) := by decide +kernel
theorem d_By_same_5 : decode b_By_same 5 = .ok (.getfield 23, 3) := by decide +kernel
theorem d_By_same_8 : decode b_By_same 8 = .ok (.if_icmp .eq 5, 3) := by decide +kernel
theorem d_By_same_11 : decode b_By_same 11 = .ok (.iconst 0, 1) := by decide +kernel
theorem d_By_same_12 : decode b_By_same 12 = .ok (.ireturn, 1) := by decide +kernel
theorem d_By_same_13 : decode b_By_same 13 = .ok (.iconst 0, 1) := by decide +kernel
theorem d_By_same_14 : decode b_By_same 14 = .ok (.istore_n 2, 1) := by decide +kernel
theorem d_By_same_15 : decode b_By_same 15 = .ok (.iload_n 2, 1) := by decide +kernel
theorem d_By_same_16 : decode b_By_same 16 = .ok (.aload_n 0, 1) := by decide +kernel
theorem d_By_same_17 : decode b_By_same 17 = .ok (.getfield 23, 3) := by decide +kernel
theorem d_By_same_20 : decode b_By_same 20 = .ok (.if_icmp .ge 26, 3) := by decide +kernel
theorem d_By_same_23 : decode b_By_same 23 = .ok (.aload_n 0, 1) := by decide +kernel
theorem d_By_same_24 : decode b_By_same 24 = .ok (.getfield 19, 3) := by decide +kernel
theorem d_By_same_27 : decode b_By_same 27 = .ok (.iload_n 2, 1) := by decide +kernel
theorem d_By_same_28 : decode b_By_same 28 = .ok (.baload, 1) := by decide +kernel
theorem d_By_same_29 : decode b_By_same 29 = .ok (.aload_n 1, 1) := by decide +kernel
theorem d_By_same_30 : decode b_By_same 30 = .ok (.getfield 19, 3) := by decide +kernel
theorem d_By_same_33 : decode b_By_same 33 = .ok (.iload_n 2, 1) := by decide +kernel
theorem d_By_same_34 : decode b_By_same 34 = .ok (.baload, 1) := by decide +kernel
theorem d_By_same_35 : decode b_By_same 35 = .ok (.if_icmp .eq 5, 3) := by decide +kernel
theorem d_By_same_38 : decode b_By_same 38 = .ok (.iconst 0, 1) := by decide +kernel
theorem d_By_same_39 : decode b_By_same 39 = .ok (.ireturn, 1) := by decide +kernel
theorem d_By_same_40 : decode b_By_same 40 = .ok (.iinc 2 1, 3) := by decide +kernel
theorem d_By_same_43 : decode b_By_same 43 = .ok (.goto (-28), 3) := by decide +kernel
theorem d_By_same_46 : decode b_By_same 46 = .ok (.iconst 1, 1) := by decide +kernel
theorem d_By_same_47 : decode b_By_same 47 = .ok (.ireturn, 1) := by decide +kernel
theorem d_By_size_0 : decode b_By_size 0 = .ok (.aload_n 0, 1) := by decide +kernel
theorem d_By_size_1 : decode b_By_size 1 = .ok (.getfield 23, 3) := by decide +kernel
theorem d_By_size_4 : decode b_By_size 4 = .ok (.ireturn, 1) := by decide +kernel
theorem d_Si_isDigit_0 : decode b_Si_isDigit 0 = .ok (.iload_n 0, 1) := by decide +kernel
theorem d_Si_isDigit_1 : decode b_Si_isDigit 1 = .ok (.bipush 48, 2) := by decide +kernel
theorem d_Si_isDigit_3 : decode b_Si_isDigit 3 = .ok (.if_icmp .lt 13, 3) := by decide +kernel
theorem d_Si_isDigit_6 : decode b_Si_isDigit 6 = .ok (.iload_n 0, 1) := by decide +kernel
theorem d_Si_isDigit_7 : decode b_Si_isDigit 7 = .ok (.bipush 57, 2) := by decide +kernel
theorem d_Si_isDigit_9 : decode b_Si_isDigit 9 = .ok (.if_icmp .gt 7, 3) := by decide +kernel
theorem d_Si_isDigit_12 : decode b_Si_isDigit 12 = .ok (.iconst 1, 1) := by decide +kernel
theorem d_Si_isDigit_13 : decode b_Si_isDigit 13 = .ok (.goto 4, 3) := by decide +kernel
theorem d_Si_isDigit_16 : decode b_Si_isDigit 16 = .ok (.iconst 0, 1) := by decide +kernel
theorem d_Si_isDigit_17 : decode b_Si_isDigit 17 = .ok (.ireturn, 1) := by decide +kernel
theorem d_Si_isLetter_0 : decode b_Si_isLetter 0 = .ok (.iload_n 0, 1) := by decide +kernel
theorem d_Si_isLetter_1 : decode b_Si_isLetter 1 = .ok (.bipush 97, 2) := by decide +kernel
theorem d_Si_isLetter_3 : decode b_Si_isLetter 3 = .ok (.if_icmp .lt 13, 3) := by decide +kernel
theorem d_Si_isLetter_6 : decode b_Si_isLetter 6 = .ok (.iload_n 0, 1) := by decide +kernel
theorem d_Si_isLetter_7 : decode b_Si_isLetter 7 = .ok (.bipush 122, 2) := by decide +kernel
theorem d_Si_isLetter_9 : decode b_Si_isLetter 9 = .ok (.if_icmp .gt 7, 3) := by decide +kernel
theorem d_Si_isLetter_12 : decode b_Si_isLetter 12 = .ok (.iconst 1, 1) := by decide +kernel
theorem d_Si_isLetter_13 : decode b_Si_isLetter 13 = .ok (.goto 4, 3) := by decide +kernel
theorem d_Si_isLetter_16 : decode b_Si_isLetter 16 = .ok (.iconst 0, 1) := by decide +kernel
theorem d_Si_isLetter_17 : decode b_Si_isLetter 17 = .ok (.ireturn, 1) := by decide +kernel
theorem d_Si_isLocal_0 : decode b_Si_isLocal 0 = .ok (.iload_n 2, 1) := by decide +kernel
theorem d_Si_isLocal_1 : decode b_Si_isLocal 1 = .ok (.iload_n 1, 1) := by decide +kernel
theorem d_Si_isLocal_2 : decode b_Si_isLocal 2 = .ok (.if_icmp .le 11, 3) := by decide +kernel
theorem d_Si_isLocal_5 : decode b_Si_isLocal 5 = .ok (.iload_n 2, 1) := by decide +kernel
theorem d_Si_isLocal_6 : decode b_Si_isLocal 6 = .ok (.iload_n 1, 1) := by decide +kernel
theorem d_Si_isLocal_7 : decode b_Si_isLocal 7 = .ok (.isub, 1) := by decide +kernel
theorem d_Si_isLocal_8 : decode b_Si_isLocal 8 = .ok (.bipush 30, 2) := by decide +kernel
theorem d_Si_isLocal_10 : decode b_Si_isLocal 10 = .ok (.if_icmp .le 5, 3) := by decide +kernel
theorem d_Si_isLocal_13 : decode b_Si_isLocal 13 = .ok (.iconst 0, 1) := by decide +kernel
theorem d_Si_isLocal_14 : decode b_Si_isLocal 14 = .ok (.ireturn, 1) := by decide +kernel
theorem d_Si_isLocal_15 : decode b_Si_isLocal 15 = .ok (.iload_n 1, 1) := by decide +kernel
theorem d_Si_isLocal_16 : decode b_Si_isLocal 16 = .ok (.istore_n 3, 1) := by decide +kernel
theorem d_Si_isLocal_17 : decode b_Si_isLocal 17 = .ok (.iload_n 3, 1) := by decide +kernel
theorem d_Si_isLocal_18 : decode b_Si_isLocal 18 = .ok (.iload_n 2, 1) := by decide +kernel
theorem d_Si_isLocal_19 : decode b_Si_isLocal 19 = .ok (.if_icmp .ge 40, 3) := by decide +kernel
theorem d_Si_isLocal_22 : decode b_Si_isLocal 22 = .ok (.aload_n 0, 1) := by decide +kernel
theorem d_Si_isLocal_23 : decode b_Si_isLocal 23 = .ok (.iload_n 3, 1) := by decide +kernel
theorem d_Si_isLocal_24 : decode b_Si_isLocal 24 = .ok (.invokevirtual 18, 3) := by decide +kernel
theorem d_Si_isLocal_27 : decode b_Si_isLocal 27 = .ok (.istore 4, 2) := by decide +kernel
theorem d_Si_isLocal_29 : decode b_Si_isLocal 29 = .ok (.iload 4, 2) := by decide +kernel
theorem d_Si_isLocal_31 : decode b_Si_isLocal 31 = .ok (.invokestatic 24, 3) := by decide +kernel
theorem d_Si_isLocal_34 : decode b_Si_isLocal 34 = .ok (.ifCond .ne 19, 3) := by decide +kernel
theorem d_Si_isLocal_37 : decode b_Si_isLocal 37 = .ok (.iload 4, 2) := by decide +kernel
theorem d_Si_isLocal_39 : decode b_Si_isLocal 39 = .ok (.bipush 46, 2) := by decide +kernel
theorem d_Si_isLocal_41 : decode b_Si_isLocal 41 = .ok (.if_icmp .eq 12, 3) := by decide +kernel
theorem d_Si_isLocal_44 : decode b_Si_isLocal 44 = .ok (.iload 4, 2) := by decide +kernel
theorem d_Si_isLocal_46 : decode b_Si_isLocal 46 = .ok (.bipush 43, 2) := by decide +kernel
theorem d_Si_isLocal_48 : decode b_Si_isLocal 48 = .ok (.if_icmp .eq 5, 3) := by decide +kernel
theorem d_Si_isLocal_51 : decode b_Si_isLocal 51 = .ok (.iconst 0, 1) := by decide +kernel
theorem d_Si_isLocal_52 : decode b_Si_isLocal 52 = .ok (.ireturn, 1) := by decide +kernel
theorem d_Si_isLocal_53 : decode b_Si_isLocal 53 = .ok (.iinc 3 1, 3) := by decide +kernel
theorem d_Si_isLocal_56 : decode b_Si_isLocal 56 = .ok (.goto (-39), 3) := by decide +kernel
theorem d_Si_isLocal_59 : decode b_Si_isLocal 59 = .ok (.iconst 1, 1) := by decide +kernel
theorem d_Si_isLocal_60 : decode b_Si_isLocal 60 = .ok (.ireturn, 1) := by decide +kernel
theorem d_Si_isName_0 : decode b_Si_isName 0 = .ok (.iload_n 2, 1) := by decide +kernel
theorem d_Si_isName_1 : decode b_Si_isName 1 = .ok (.iload_n 1, 1) := by decide +kernel
theorem d_Si_isName_2 : decode b_Si_isName 2 = .ok (.isub, 1) := by decide +kernel
theorem d_Si_isName_3 : decode b_Si_isName 3 = .ok (.bipush 60, 2) := by decide +kernel
theorem d_Si_isName_5 : decode b_Si_isName 5 = .ok (.if_icmp .le 5, 3) := by decide +kernel
theorem d_Si_isName_8 : decode b_Si_isName 8 = .ok (.iconst 0, 1) := by decide +kernel
theorem d_Si_isName_9 : decode b_Si_isName 9 = .ok (.ireturn, 1) := by decide +kernel
theorem d_Si_isName_10 : decode b_Si_isName 10 = .ok (.iconst 0, 1) := by decide +kernel
theorem d_Si_isName_11 : decode b_Si_isName 11 = .ok (.istore_n 3, 1) := by decide +kernel
theorem d_Si_isName_12 : decode b_Si_isName 12 = .ok (.iload_n 1, 1) := by decide +kernel
theorem d_Si_isName_13 : decode b_Si_isName 13 = .ok (.istore 4, 2) := by decide +kernel
theorem d_Si_isName_15 : decode b_Si_isName 15 = .ok (.iload 4, 2) := by decide +kernel
theorem d_Si_isName_17 : decode b_Si_isName 17 = .ok (.iload_n 2, 1) := by decide +kernel
theorem d_Si_isName_18 : decode b_Si_isName 18 = .ok (.if_icmp .ge 55, 3) := by decide +kernel
theorem d_Si_isName_21 : decode b_Si_isName 21 = .ok (.aload_n 0, 1) := by decide +kernel
theorem d_Si_isName_22 : decode b_Si_isName 22 = .ok (.iload 4, 2) := by decide +kernel
theorem d_Si_isName_24 : decode b_Si_isName 24 = .ok (.invokevirtual 18, 3) := by decide +kernel
theorem d_Si_isName_27 : decode b_Si_isName 27 = .ok (.istore 5, 2) := by decide +kernel
theorem d_Si_isName_29 : decode b_Si_isName 29 = .ok (.iload 5, 2) := by decide +kernel
theorem d_Si_isName_31 : decode b_Si_isName 31 = .ok (.bipush 46, 2) := by decide +kernel
theorem d_Si_isName_33 : decode b_Si_isName 33 = .ok (.if_icmp .ne 12, 3) := by decide +kernel
theorem d_Si_isName_36 : decode b_Si_isName 36 = .ok (.iload_n 3, 1) := by decide +kernel
theorem d_Si_isName_37 : decode b_Si_isName 37 = .ok (.ifCond .le 8, 3) := by decide +kernel
theorem d_Si_isName_40 : decode b_Si_isName 40 = .ok (.iconst 0, 1) := by decide +kernel
theorem d_Si_isName_41 : decode b_Si_isName 41 = .ok (.istore_n 3, 1) := by decide +kernel
theorem d_Si_isName_42 : decode b_Si_isName 42 = .ok (.goto 25, 3) := by decide +kernel
theorem d_Si_isName_45 : decode b_Si_isName 45 = .ok (.iload 5, 2) := by decide +kernel
theorem d_Si_isName_47 : decode b_Si_isName 47 = .ok (.invokestatic 24, 3) := by decide +kernel
theorem d_Si_isName_50 : decode b_Si_isName 50 = .ok (.ifCond .eq 15, 3) := by decide +kernel
theorem d_Si_isName_53 : decode b_Si_isName 53 = .ok (.iload_n 3, 1) := by decide +kernel
theorem d_Si_isName_54 : decode b_Si_isName 54 = .ok (.bipush 20, 2) := by decide +kernel
theorem d_Si_isName_56 : decode b_Si_isName 56 = .ok (.if_icmp .ge 9, 3) := by decide +kernel
theorem d_Si_isName_59 : decode b_Si_isName 59 = .ok (.iinc 3 1, 3) := by decide +kernel
theorem d_Si_isName_62 : decode b_Si_isName 62 = .ok (.goto 5, 3) := by decide +kernel
theorem d_Si_isName_65 : decode b_Si_isName 65 = .ok (.iconst 0, 1) := by decide +kernel
theorem d_Si_isName_66 : decode b_Si_isName 66 = .ok (.ireturn, 1) := by decide +kernel
theorem d_Si_isName_67 : decode b_Si_isName 67 = .ok (.iinc 4 1, 3) := by decide +kernel
theorem d_Si_isName_70 : decode b_Si_isName 70 = .ok (.goto (-55), 3) := by decide +kernel
theorem d_Si_isName_73 : decode b_Si_isName 73 = .ok (.iload_n 3, 1) := by decide +kernel
theorem d_Si_isName_74 : decode b_Si_isName 74 = .ok (.ifCond .le 7, 3) := by decide +kernel
theorem d_Si_isName_77 : decode b_Si_isName 77 = .ok (.iconst 1, 1) := by decide +kernel
theorem d_Si_isName_78 : decode b_Si_isName 78 = .ok (.goto 4, 3) := by decide +kernel
theorem d_Si_isName_81 : decode b_Si_isName 81 = .ok (.iconst 0, 1) := by decide +kernel
theorem d_Si_isName_82 : decode b_Si_isName 82 = .ok (.ireturn, 1) := by decide +kernel
theorem d_Si_isNameSign_0 : decode b_Si_isNameSign 0 = .ok (.iload_n 0, 1) := by decide +kernel
theorem d_Si_isNameSign_1 : decode b_Si_isNameSign 1 = .ok (.invokestatic 9, 3) := by decide +kernel
theorem d_Si_isNameSign_4 : decode b_Si_isNameSign 4 = .ok (.ifCond .ne 22, 3) := by decide +kernel
theorem d_Si_isNameSign_7 : decode b_Si_isNameSign 7 = .ok (.iload_n 0, 1) := by decide +kernel
theorem d_Si_isNameSign_8 : decode b_Si_isNameSign 8 = .ok (.invokestatic 15, 3) := by decide +kernel
theorem d_Si_isNameSign_11 : decode b_Si_isNameSign 11 = .ok (.ifCond .ne 15, 3) := by decide +kernel
theorem d_Si_isNameSign_14 : decode b_Si_isNameSign 14 = .ok (.iload_n 0, 1) := by decide +kernel
theorem d_Si_isNameSign_15 : decode b_Si_isNameSign 15 = .ok (.bipush 45, 2) := by decide +kernel
theorem d_Si_isNameSign_17 : decode b_Si_isNameSign 17 = .ok (.if_icmp .eq 9, 3) := by decide +kernel
theorem d_Si_isNameSign_20 : decode b_Si_isNameSign 20 = .ok (.iload_n 0, 1) := by decide +kernel
theorem d_Si_isNameSign_21 : decode b_Si_isNameSign 21 = .ok (.bipush 95, 2) := by decide +kernel
theorem d_Si_isNameSign_23 : decode b_Si_isNameSign 23 = .ok (.if_icmp .ne 7, 3) := by decide +kernel
theorem d_Si_isNameSign_26 : decode b_Si_isNameSign 26 = .ok (.iconst 1, 1) := by decide +kernel
theorem d_Si_isNameSign_27 : decode b_Si_isNameSign 27 = .ok (.goto 4, 3) := by decide +kernel
theorem d_Si_isNameSign_30 : decode b_Si_isNameSign 30 = .ok (.iconst 0, 1) := by decide +kernel
theorem d_Si_isNameSign_31 : decode b_Si_isNameSign 31 = .ok (.ireturn, 1) := by decide +kernel
theorem d_Si_isWord_0 : decode b_Si_isWord 0 = .ok (.iload_n 2, 1) := by decide +kernel
theorem d_Si_isWord_1 : decode b_Si_isWord 1 = .ok (.iload_n 1, 1) := by decide +kernel
theorem d_Si_isWord_2 : decode b_Si_isWord 2 = .ok (.if_icmp .le 14, 3) := by decide +kernel
theorem d_Si_isWord_5 : decode b_Si_isWord 5 = .ok (.aload_n 0, 1) := by decide +kernel
theorem d_Si_isWord_6 : decode b_Si_isWord 6 = .ok (.iload_n 1, 1) := by decide +kernel
theorem d_Si_isWord_7 : decode b_Si_isWord 7 = .ok (.invokevirtual 18, 3) := by decide +kernel
theorem d_Si_isWord_10 : decode b_Si_isWord 10 = .ok (.invokestatic 9, 3) := by decide +kernel
theorem d_Si_isWord_13 : decode b_Si_isWord 13 = .ok (.ifCond .ne 5, 3) := by decide +kernel
theorem d_Si_isWord_16 : decode b_Si_isWord 16 = .ok (.iconst 0, 1) := by decide +kernel
theorem d_Si_isWord_17 : decode b_Si_isWord 17 = .ok (.ireturn, 1) := by decide +kernel
theorem d_Si_isWord_18 : decode b_Si_isWord 18 = .ok (.iload_n 1, 1) := by decide +kernel
theorem d_Si_isWord_19 : decode b_Si_isWord 19 = .ok (.istore_n 3, 1) := by decide +kernel
theorem d_Si_isWord_20 : decode b_Si_isWord 20 = .ok (.iload_n 3, 1) := by decide +kernel
theorem d_Si_isWord_21 : decode b_Si_isWord 21 = .ok (.iload_n 2, 1) := by decide +kernel
theorem d_Si_isWord_22 : decode b_Si_isWord 22 = .ok (.if_icmp .ge 32, 3) := by decide +kernel
theorem d_Si_isWord_25 : decode b_Si_isWord 25 = .ok (.aload_n 0, 1) := by decide +kernel
theorem d_Si_isWord_26 : decode b_Si_isWord 26 = .ok (.iload_n 3, 1) := by decide +kernel
theorem d_Si_isWord_27 : decode b_Si_isWord 27 = .ok (.invokevirtual 18, 3) := by decide +kernel
theorem d_Si_isWord_30 : decode b_Si_isWord 30 = .ok (.invokestatic 24, 3) := by decide +kernel
theorem d_Si_isWord_33 : decode b_Si_isWord 33 = .ok (.ifCond .ne 15, 3) := by decide +kernel
theorem d_Si_isWord_36 : decode b_Si_isWord 36 = .ok (.aload_n 0, 1) := by decide +kernel
theorem d_Si_isWord_37 : decode b_Si_isWord 37 = .ok (.iload_n 3, 1) := by decide +kernel
theorem d_Si_isWord_38 : decode b_Si_isWord 38 = .ok (.invokevirtual 18, 3) := by decide +kernel
theorem d_Si_isWord_41 : decode b_Si_isWord 41 = .ok (.bipush 46, 2) := by decide +kernel
theorem d_Si_isWord_43 : decode b_Si_isWord 43 = .ok (.if_icmp .eq 5, 3) := by decide +kernel
theorem d_Si_isWord_46 : decode b_Si_isWord 46 = .ok (.iconst 0, 1) := by decide +kernel
theorem d_Si_isWord_47 : decode b_Si_isWord 47 = .ok (.ireturn, 1) := by decide +kernel
theorem d_Si_isWord_48 : decode b_Si_isWord 48 = .ok (.iinc 3 1, 3) := by decide +kernel
theorem d_Si_isWord_51 : decode b_Si_isWord 51 = .ok (.goto (-31), 3) := by decide +kernel
theorem d_Si_isWord_54 : decode b_Si_isWord 54 = .ok (.iconst 1, 1) := by decide +kernel
theorem d_Si_isWord_55 : decode b_Si_isWord 55 = .ok (.ireturn, 1) := by decide +kernel
theorem d_Ma_isMacroLetter_0 : decode b_Ma_isMacroLetter 0 = .ok (.iload_n 0, 1) := by decide +kernel
theorem d_Ma_isMacroLetter_1 : decode b_Ma_isMacroLetter 1 = .ok (.bipush 115, 2) := by decide +kernel
theorem d_Ma_isMacroLetter_3 : decode b_Ma_isMacroLetter 3 = .ok (.if_icmp .eq 27, 3) := by decide +kernel
theorem d_Ma_isMacroLetter_6 : decode b_Ma_isMacroLetter 6 = .ok (.iload_n 0, 1) := by decide +kernel
theorem d_Ma_isMacroLetter_7 : decode b_Ma_isMacroLetter 7 = .ok (.bipush 108, 2) := by decide +kernel
theorem d_Ma_isMacroLetter_9 : decode b_Ma_isMacroLetter 9 = .ok (.if_icmp .eq 21, 3) := by decide +kernel
theorem d_Ma_isMacroLetter_12 : decode b_Ma_isMacroLetter 12 = .ok (.iload_n 0, 1) := by decide +kernel
theorem d_Ma_isMacroLetter_13 : decode b_Ma_isMacroLetter 13 = .ok (.bipush 111, 2) := by decide +kernel
theorem d_Ma_isMacroLetter_15 : decode b_Ma_isMacroLetter 15 = .ok (.if_icmp .eq 15, 3) := by decide +kernel
theorem d_Ma_isMacroLetter_18 : decode b_Ma_isMacroLetter 18 = .ok (.iload_n 0, 1) := by decide +kernel
theorem d_Ma_isMacroLetter_19 : decode b_Ma_isMacroLetter 19 = .ok (.bipush 100, 2) := by decide +kernel
theorem d_Ma_isMacroLetter_21 : decode b_Ma_isMacroLetter 21 = .ok (.if_icmp .eq 9, 3) := by decide +kernel
theorem d_Ma_isMacroLetter_24 : decode b_Ma_isMacroLetter 24 = .ok (.iload_n 0, 1) := by decide +kernel
theorem d_Ma_isMacroLetter_25 : decode b_Ma_isMacroLetter 25 = .ok (.bipush 105, 2) := by decide +kernel
theorem d_Ma_isMacroLetter_27 : decode b_Ma_isMacroLetter 27 = .ok (.if_icmp .ne 7, 3) := by decide +kernel
theorem d_Ma_isMacroLetter_30 : decode b_Ma_isMacroLetter 30 = .ok (.iconst 1, 1) := by decide +kernel
theorem d_Ma_isMacroLetter_31 : decode b_Ma_isMacroLetter 31 = .ok (.goto 4, 3) := by decide +kernel
theorem d_Ma_isMacroLetter_34 : decode b_Ma_isMacroLetter 34 = .ok (.iconst 0, 1) := by decide +kernel
theorem d_Ma_isMacroLetter_35 : decode b_Ma_isMacroLetter 35 = .ok (.ireturn, 1) := by decide +kernel
theorem d_Ma_isPartNumber_0 : decode b_Ma_isPartNumber 0 = .ok (.iload_n 0, 1) := by decide +kernel
theorem d_Ma_isPartNumber_1 : decode b_Ma_isPartNumber 1 = .ok (.bipush 49, 2) := by decide +kernel
theorem d_Ma_isPartNumber_3 : decode b_Ma_isPartNumber 3 = .ok (.if_icmp .lt 13, 3) := by decide +kernel
theorem d_Ma_isPartNumber_6 : decode b_Ma_isPartNumber 6 = .ok (.iload_n 0, 1) := by decide +kernel
theorem d_Ma_isPartNumber_7 : decode b_Ma_isPartNumber 7 = .ok (.bipush 57, 2) := by decide +kernel
theorem d_Ma_isPartNumber_9 : decode b_Ma_isPartNumber 9 = .ok (.if_icmp .gt 7, 3) := by decide +kernel
theorem d_Ma_isPartNumber_12 : decode b_Ma_isPartNumber 12 = .ok (.iconst 1, 1) := by decide +kernel
theorem d_Ma_isPartNumber_13 : decode b_Ma_isPartNumber 13 = .ok (.goto 4, 3) := by decide +kernel
theorem d_Ma_isPartNumber_16 : decode b_Ma_isPartNumber 16 = .ok (.iconst 0, 1) := by decide +kernel
theorem d_Ma_isPartNumber_17 : decode b_Ma_isPartNumber 17 = .ok (.ireturn, 1) := by decide +kernel
theorem d_Ma_macroLength_0 : decode b_Ma_macroLength 0 = .ok (.iload_n 1, 1) := by decide +kernel
theorem d_Ma_macroLength_1 : decode b_Ma_macroLength 1 = .ok (.iconst 1, 1) := by decide +kernel
theorem d_Ma_macroLength_2 : decode b_Ma_macroLength 2 = .ok (.iadd, 1) := by decide +kernel
theorem d_Ma_macroLength_3 : decode b_Ma_macroLength 3 = .ok (.iload_n 2, 1) := by decide +kernel
theorem d_Ma_macroLength_4 : decode b_Ma_macroLength 4 = .ok (.if_icmp .ge 13, 3) := by decide +kernel
theorem d_Ma_macroLength_7 : decode b_Ma_macroLength 7 = .ok (.aload_n 0, 1) := by decide +kernel
theorem d_Ma_macroLength_8 : decode b_Ma_macroLength 8 = .ok (.iload_n 1, 1) := by decide +kernel
theorem d_Ma_macroLength_9 : decode b_Ma_macroLength 9 = .ok (.iconst 1, 1) := by decide +kernel
theorem d_Ma_macroLength_10 : decode b_Ma_macroLength 10 = .ok (.iadd, 1) := by decide +kernel
theorem d_Ma_macroLength_11 : decode b_Ma_macroLength 11 = .ok (.invokevirtual 19, 3) := by decide +kernel
theorem d_Ma_macroLength_14 : decode b_Ma_macroLength 14 = .ok (.goto 4, 3) := by decide +kernel
theorem d_Ma_macroLength_17 : decode b_Ma_macroLength 17 = .ok (.iconst (-1), 1) := by decide +kernel
theorem d_Ma_macroLength_18 : decode b_Ma_macroLength 18 = .ok (.istore_n 3, 1) := by decide +kernel
theorem d_Ma_macroLength_19 : decode b_Ma_macroLength 19 = .ok (.iload_n 3, 1) := by decide +kernel
theorem d_Ma_macroLength_20 : decode b_Ma_macroLength 20 = .ok (.bipush 37, 2) := by decide +kernel
theorem d_Ma_macroLength_22 : decode b_Ma_macroLength 22 = .ok (.if_icmp .eq 15, 3) := by decide +kernel
theorem d_Ma_macroLength_25 : decode b_Ma_macroLength 25 = .ok (.iload_n 3, 1) := by decide +kernel
theorem d_Ma_macroLength_26 : decode b_Ma_macroLength 26 = .ok (.bipush 95, 2) := by decide +kernel
theorem d_Ma_macroLength_28 : decode b_Ma_macroLength 28 = .ok (.if_icmp .eq 9, 3) := by decide +kernel
theorem d_Ma_macroLength_31 : decode b_Ma_macroLength 31 = .ok (.iload_n 3, 1) := by decide +kernel
theorem d_Ma_macroLength_32 : decode b_Ma_macroLength 32 = .ok (.bipush 45, 2) := by decide +kernel
theorem d_Ma_macroLength_34 : decode b_Ma_macroLength 34 = .ok (.if_icmp .ne 5, 3) := by decide +kernel
theorem d_Ma_macroLength_37 : decode b_Ma_macroLength 37 = .ok (.iconst 2, 1) := by decide +kernel
theorem d_Ma_macroLength_38 : decode b_Ma_macroLength 38 = .ok (.ireturn, 1) := by decide +kernel
theorem d_Ma_macroLength_39 : decode b_Ma_macroLength 39 = .ok (.iload_n 3, 1) := by decide +kernel
theorem d_Ma_macroLength_40 : decode b_Ma_macroLength 40 = .ok (.bipush 123, 2) := by decide +kernel
theorem d_Ma_macroLength_42 : decode b_Ma_macroLength 42 = .ok (.if_icmp .ne 23, 3) := by decide +kernel
theorem d_Ma_macroLength_45 : decode b_Ma_macroLength 45 = .ok (.iload_n 1, 1) := by decide +kernel
theorem d_Ma_macroLength_46 : decode b_Ma_macroLength 46 = .ok (.iconst 2, 1) := by decide +kernel
theorem d_Ma_macroLength_47 : decode b_Ma_macroLength 47 = .ok (.iadd, 1) := by decide +kernel
theorem d_Ma_macroLength_48 : decode b_Ma_macroLength 48 = .ok (.iload_n 2, 1) := by decide +kernel
theorem d_Ma_macroLength_49 : decode b_Ma_macroLength 49 = .ok (.if_icmp .ge 16, 3) := by decide +kernel
theorem d_Ma_macroLength_52 : decode b_Ma_macroLength 52 = .ok (.aload_n 0, 1) := by decide +kernel
theorem d_Ma_macroLength_53 : decode b_Ma_macroLength 53 = .ok (.iload_n 1, 1) := by decide +kernel
theorem d_Ma_macroLength_54 : decode b_Ma_macroLength 54 = .ok (.iconst 2, 1) := by decide +kernel
theorem d_Ma_macroLength_55 : decode b_Ma_macroLength 55 = .ok (.iadd, 1) := by decide +kernel
theorem d_Ma_macroLength_56 : decode b_Ma_macroLength 56 = .ok (.invokevirtual 19, 3) := by decide +kernel
theorem d_Ma_macroLength_59 : decode b_Ma_macroLength 59 = .ok (.invokestatic 29, 3) := by decide +kernel
theorem d_Ma_macroLength_62 : decode b_Ma_macroLength 62 = .ok (.ifCond .ne 5, 3) := by decide +kernel
theorem d_Ma_macroLength_65 : decode b_Ma_macroLength 65 = .ok (.iconst 0, 1) := by decide +kernel
theorem d_Ma_macroLength_66 : decode b_Ma_macroLength 66 = .ok (.ireturn, 1) := by decide +kernel
theorem d_Ma_macroLength_67 : decode b_Ma_macroLength 67 = .ok (.iload_n 1, 1) := by decide +kernel
theorem d_Ma_macroLength_68 : decode b_Ma_macroLength 68 = .ok (.iconst 3, 1) := by decide +kernel
theorem d_Ma_macroLength_69 : decode b_Ma_macroLength 69 = .ok (.iadd, 1) := by decide +kernel
theorem d_Ma_macroLength_70 : decode b_Ma_macroLength 70 = .ok (.istore 4, 2) := by decide +kernel
theorem d_Ma_macroLength_72 : decode b_Ma_macroLength 72 = .ok (.aload_n 0, 1) := by decide +kernel
theorem d_Ma_macroLength_73 : decode b_Ma_macroLength 73 = .ok (.iload 4, 2) := by decide +kernel
theorem d_Ma_macroLength_75 : decode b_Ma_macroLength 75 = .ok (.invokevirtual 19, 3) := by decide +kernel
theorem d_Ma_macroLength_78 : decode b_Ma_macroLength 78 = .ok (.invokestatic 33, 3) := by decide +kernel
theorem d_Ma_macroLength_81 : decode b_Ma_macroLength 81 = .ok (.ifCond .eq 6, 3) := by decide +kernel
theorem d_Ma_macroLength_84 : decode b_Ma_macroLength 84 = .ok (.iinc 4 1, 3) := by decide +kernel
theorem d_Ma_macroLength_87 : decode b_Ma_macroLength 87 = .ok (.aload_n 0, 1) := by decide +kernel
theorem d_Ma_macroLength_88 : decode b_Ma_macroLength 88 = .ok (.iload 4, 2) := by decide +kernel
theorem d_Ma_macroLength_90 : decode b_Ma_macroLength 90 = .ok (.invokevirtual 19, 3) := by decide +kernel
theorem d_Ma_macroLength_93 : decode b_Ma_macroLength 93 = .ok (.bipush 114, 2) := by decide +kernel
theorem d_Ma_macroLength_95 : decode b_Ma_macroLength 95 = .ok (.if_icmp .ne 6, 3) := by decide +kernel
theorem d_Ma_macroLength_98 : decode b_Ma_macroLength 98 = .ok (.iinc 4 1, 3) := by decide +kernel
theorem d_Ma_macroLength_101 : decode b_Ma_macroLength 101 = .ok (.iload 4, 2) := by decide +kernel
theorem d_Ma_macroLength_103 : decode b_Ma_macroLength 103 = .ok (.iload_n 2, 1) := by decide +kernel
theorem d_Ma_macroLength_104 : decode b_Ma_macroLength 104 = .ok (.if_icmp .ge 23, 3) := by decide +kernel
theorem d_Ma_macroLength_107 : decode b_Ma_macroLength 107 = .ok (.aload_n 0, 1) := by decide +kernel
theorem d_Ma_macroLength_108 : decode b_Ma_macroLength 108 = .ok (.iload 4, 2) := by decide +kernel
theorem d_Ma_macroLength_110 : decode b_Ma_macroLength 110 = .ok (.invokevirtual 19, 3) := by decide +kernel
theorem d_Ma_macroLength_113 : decode b_Ma_macroLength 113 = .ok (.bipush 125, 2) := by decide +kernel
theorem d_Ma_macroLength_115 : decode b_Ma_macroLength 115 = .ok (.if_icmp .ne 12, 3) := by decide +kernel
theorem d_Ma_macroLength_118 : decode b_Ma_macroLength 118 = .ok (.iload 4, 2) := by decide +kernel
theorem d_Ma_macroLength_120 : decode b_Ma_macroLength 120 = .ok (.iconst 1, 1) := by decide +kernel
theorem d_Ma_macroLength_121 : decode b_Ma_macroLength 121 = .ok (.iadd, 1) := by decide +kernel
theorem d_Ma_macroLength_122 : decode b_Ma_macroLength 122 = .ok (.iload_n 1, 1) := by decide +kernel
theorem d_Ma_macroLength_123 : decode b_Ma_macroLength 123 = .ok (.isub, 1) := by decide +kernel
theorem d_Ma_macroLength_124 : decode b_Ma_macroLength 124 = .ok (.goto 4, 3) := by decide +kernel
theorem d_Ma_macroLength_127 : decode b_Ma_macroLength 127 = .ok (.iconst 0, 1) := by decide +kernel
theorem d_Ma_macroLength_128 : decode b_Ma_macroLength 128 = .ok (.ireturn, 1) := by decide +kernel
theorem d_Ma_isTarget_0 : decode b_Ma_isTarget 0 = .ok (.iload_n 1, 1) := by decide +kernel
theorem d_Ma_isTarget_1 : decode b_Ma_isTarget 1 = .ok (.istore_n 3, 1) := by decide +kernel
theorem d_Ma_isTarget_2 : decode b_Ma_isTarget 2 = .ok (.iload_n 3, 1) := by decide +kernel
theorem d_Ma_isTarget_3 : decode b_Ma_isTarget 3 = .ok (.iload_n 2, 1) := by decide +kernel
theorem d_Ma_isTarget_4 : decode b_Ma_isTarget 4 = .ok (.if_icmp .ge 61, 3) := by decide +kernel
theorem d_Ma_isTarget_7 : decode b_Ma_isTarget 7 = .ok (.aload_n 0, 1) := by decide +kernel
theorem d_Ma_isTarget_8 : decode b_Ma_isTarget 8 = .ok (.iload_n 3, 1) := by decide +kernel
theorem d_Ma_isTarget_9 : decode b_Ma_isTarget 9 = .ok (.invokevirtual 19, 3) := by decide +kernel
theorem d_Ma_isTarget_12 : decode b_Ma_isTarget 12 = .ok (.istore 4, 2) := by decide +kernel
theorem d_Ma_isTarget_14 : decode b_Ma_isTarget 14 = .ok (.iload 4, 2) := by decide +kernel
theorem d_Ma_isTarget_16 : decode b_Ma_isTarget 16 = .ok (.bipush 33, 2) := by decide +kernel
theorem d_Ma_isTarget_18 : decode b_Ma_isTarget 18 = .ok (.if_icmp .lt 10, 3) := by decide +kernel
theorem d_Ma_isTarget_21 : decode b_Ma_isTarget 21 = .ok (.iload 4, 2) := by decide +kernel
theorem d_Ma_isTarget_23 : decode b_Ma_isTarget 23 = .ok (.bipush 126, 2) := by decide +kernel
theorem d_Ma_isTarget_25 : decode b_Ma_isTarget 25 = .ok (.if_icmp .le 5, 3) := by decide +kernel
theorem d_Ma_isTarget_28 : decode b_Ma_isTarget 28 = .ok (.iconst 0, 1) := by decide +kernel
theorem d_Ma_isTarget_29 : decode b_Ma_isTarget 29 = .ok (.ireturn, 1) := by decide +kernel
theorem d_Ma_isTarget_30 : decode b_Ma_isTarget 30 = .ok (.iload 4, 2) := by decide +kernel
theorem d_Ma_isTarget_32 : decode b_Ma_isTarget 32 = .ok (.bipush 37, 2) := by decide +kernel
theorem d_Ma_isTarget_34 : decode b_Ma_isTarget 34 = .ok (.if_icmp .ne 25, 3) := by decide +kernel
theorem d_Ma_isTarget_37 : decode b_Ma_isTarget 37 = .ok (.aload_n 0, 1) := by decide +kernel
theorem d_Ma_isTarget_38 : decode b_Ma_isTarget 38 = .ok (.iload_n 3, 1) := by decide +kernel
theorem d_Ma_isTarget_39 : decode b_Ma_isTarget 39 = .ok (.iload_n 2, 1) := by decide +kernel
theorem d_Ma_isTarget_40 : decode b_Ma_isTarget 40 = .ok (.invokestatic 25, 3) := by decide +kernel
theorem d_Ma_isTarget_43 : decode b_Ma_isTarget 43 = .ok (.istore 5, 2) := by decide +kernel
theorem d_Ma_isTarget_45 : decode b_Ma_isTarget 45 = .ok (.iload 5, 2) := by decide +kernel
theorem d_Ma_isTarget_47 : decode b_Ma_isTarget 47 = .ok (.ifCond .ne 5, 3) := by decide +kernel
theorem d_Ma_isTarget_50 : decode b_Ma_isTarget 50 = .ok (.iconst 0, 1) := by decide +kernel
theorem d_Ma_isTarget_51 : decode b_Ma_isTarget 51 = .ok (.ireturn, 1) := by decide +kernel
theorem d_Ma_isTarget_52 : decode b_Ma_isTarget 52 = .ok (.iload_n 3, 1) := by decide +kernel
theorem d_Ma_isTarget_53 : decode b_Ma_isTarget 53 = .ok (.iload 5, 2) := by decide +kernel
theorem d_Ma_isTarget_55 : decode b_Ma_isTarget 55 = .ok (.iconst 1, 1) := by decide +kernel
theorem d_Ma_isTarget_56 : decode b_Ma_isTarget 56 = .ok (.isub, 1) := by decide +kernel
theorem d_Ma_isTarget_57 : decode b_Ma_isTarget 57 = .ok (.iadd, 1) := by decide +kernel
theorem d_Ma_isTarget_58 : decode b_Ma_isTarget 58 = .ok (.istore_n 3, 1) := by decide +kernel
theorem d_Ma_isTarget_59 : decode b_Ma_isTarget 59 = .ok (.iinc 3 1, 3) := by decide +kernel
theorem d_Ma_isTarget_62 : decode b_Ma_isTarget 62 = .ok (.goto (-60), 3) := by decide +kernel
theorem d_Ma_isTarget_65 : decode b_Ma_isTarget 65 = .ok (.iload_n 2, 1) := by decide +kernel
theorem d_Ma_isTarget_66 : decode b_Ma_isTarget 66 = .ok (.iload_n 1, 1) := by decide +kernel
theorem d_Ma_isTarget_67 : decode b_Ma_isTarget 67 = .ok (.if_icmp .le 7, 3) := by decide +kernel
theorem d_Ma_isTarget_70 : decode b_Ma_isTarget 70 = .ok (.iconst 1, 1) := by decide +kernel
theorem d_Ma_isTarget_71 : decode b_Ma_isTarget 71 = .ok (.goto 4, 3) := by decide +kernel
theorem d_Ma_isTarget_74 : decode b_Ma_isTarget 74 = .ok (.iconst 0, 1) := by decide +kernel
theorem d_Ma_isTarget_75 : decode b_Ma_isTarget 75 = .ok (.ireturn, 1) := by decide +kernel
end
section
set_option maxHeartbeats 4000000 in
set_option maxRecDepth 100000 in
theorem c_By_size {l : Launch} {D : Dg} {b0 : Nat} {M : Mp} {a : Nat} {t : Nat} {lim : Int} {b : Bv} (h_B_a : IsB D M a t lim b) : OkP l D b0 1 y_By_size b_By_size 1 (some .int) M [.ref a] (vI (b.2.length : Int)) := by
  refine Ok_of rfl (Nat.le_of_ble_eq_true rfl) (fun E hC hQ hl hD hB hN hR => ?_)
  subst hl hD hB
  have g_6 := h_B_a.len
  obtain ⟨r_1, h_2, h_3, h_4, h_5⟩ := id h_B_a
  show G E M 0 0 [(0, .ref a)] [] 0
  refine G_aload_n hC 0 rfl rfl d_By_size_0 ?_
  refine G_get hC fl_By_23 h_2 rfl d_By_size_1 ?_
  exact G_iretP hC hQ d_By_size_4 rfl

set_option maxHeartbeats 4000000 in
set_option maxRecDepth 100000 in
theorem c_By_at {l : Launch} {D : Dg} {b0 : Nat} {M : Mp} {a : Nat} {i : Int} {t : Nat} {lim : Int} {b : Bv} (h_B_a : IsB D M a t lim b) (hi : -2147483648 ≤ i ∧ i ≤ 2147483647) : OkP l D b0 1 y_By_at b_By_at 2 (some .int) M [.ref a, vI i] (vI (atS b.2 i)) := by
  refine Ok_of rfl (Nat.le_of_ble_eq_true rfl) (fun E hC hQ hl hD hB hN hR => ?_)
  subst hl hD hB
  have g_6 := h_B_a.len
  obtain ⟨r_1, h_2, h_3, h_4, h_5⟩ := id h_B_a
  show G E M 0 0 [(0, .ref a), (1, vI i)] [] 0
  refine G_iload_n hC 1 rfl rfl d_By_at_0 ?_
  refine G_if_lt hC 12 (by omega) (by decide) d_By_at_1 (fun c_7 => ?_) (fun c_7 => ?_)
  · refine G_iconst (i := (-1)) hC d_By_at_12 ?_
    refine G_goto hC 26 (by decide) d_By_at_13 ?_
    exact G_iretP hC hQ d_By_at_26 (by unfold atS; rw [if_neg (by omega)])
  · refine G_iload_n hC 1 rfl rfl d_By_at_4 ?_
    refine G_aload_n hC 0 rfl rfl d_By_at_5 ?_
    refine G_get hC fl_By_23 h_2 rfl d_By_at_6 ?_
    refine G_icmp_lt hC 16 (by omega) (by omega) (by decide) d_By_at_9 (fun c_8 => ?_) (fun c_8 => ?_)
    · refine G_aload_n hC 0 rfl rfl d_By_at_16 ?_
      refine G_get hC fl_By_19 h_2 rfl d_By_at_17 ?_
      refine G_iload_n hC 1 rfl rfl d_By_at_20 ?_
      refine G_baldR hC h_3 (by omega) d_By_at_21 ?_
      have g_9 := h_3.rng i
      have g_10 := atS_gx (xs := b.2) (i := i) (by omega)
      refine G_sipush (j := 255) hC (by decide +kernel) d_By_at_22 ?_
      refine G_iand255 hC (by omega) d_By_at_25 ?_
      exact G_iretP hC hQ d_By_at_26 (by unfold atS; rw [if_pos (by omega)]; rfl)
    · refine G_iconst (i := (-1)) hC d_By_at_12 ?_
      refine G_goto hC 26 (by decide) d_By_at_13 ?_
      exact G_iretP hC hQ d_By_at_26 (by unfold atS; rw [if_neg (by omega)])

set_option maxHeartbeats 4000000 in
set_option maxRecDepth 100000 in
theorem c_Si_isDigit {l : Launch} {D : Dg} {b0 : Nat} {M : Mp} {c : Int} (hc : -2147483648 ≤ c ∧ c ≤ 2147483647) : OkP l D b0 1 y_Si_isDigit b_Si_isDigit 1 (some .boolean) M [vI c] (vI (b2i (decide (digP c)))) := by
  refine Ok_of rfl (Nat.le_of_ble_eq_true rfl) (fun E hC hQ hl hD hB hN hR => ?_)
  subst hl hD hB
  show G E M 0 0 [(0, vI c)] [] 0
  refine G_iload_n hC 0 rfl rfl d_Si_isDigit_0 ?_
  refine G_bipush (j := 48) hC (by decide +kernel) d_Si_isDigit_1 ?_
  refine G_icmp_lt hC 16 (by omega) (by decide) (by decide) d_Si_isDigit_3 (fun c_1 => ?_) (fun c_1 => ?_)
  · refine G_iconst (i := 0) hC d_Si_isDigit_16 ?_
    exact G_zretP hC hQ d_Si_isDigit_17 (b2i_f (decide_eq_false (by omega)))
  · refine G_iload_n hC 0 rfl rfl d_Si_isDigit_6 ?_
    refine G_bipush (j := 57) hC (by decide +kernel) d_Si_isDigit_7 ?_
    refine G_icmp_gt hC 16 (by omega) (by decide) (by decide) d_Si_isDigit_9 (fun c_2 => ?_) (fun c_2 => ?_)
    · refine G_iconst (i := 0) hC d_Si_isDigit_16 ?_
      exact G_zretP hC hQ d_Si_isDigit_17 (b2i_f (decide_eq_false (by omega)))
    · refine G_iconst (i := 1) hC d_Si_isDigit_12 ?_
      refine G_goto hC 17 (by decide) d_Si_isDigit_13 ?_
      exact G_zretP hC hQ d_Si_isDigit_17 (b2i_t (decide_eq_true (by omega)))

set_option maxHeartbeats 4000000 in
set_option maxRecDepth 100000 in
theorem c_Si_isLetter {l : Launch} {D : Dg} {b0 : Nat} {M : Mp} {c : Int} (hc : -2147483648 ≤ c ∧ c ≤ 2147483647) : OkP l D b0 1 y_Si_isLetter b_Si_isLetter 1 (some .boolean) M [vI c] (vI (b2i (decide (letP c)))) := by
  refine Ok_of rfl (Nat.le_of_ble_eq_true rfl) (fun E hC hQ hl hD hB hN hR => ?_)
  subst hl hD hB
  show G E M 0 0 [(0, vI c)] [] 0
  refine G_iload_n hC 0 rfl rfl d_Si_isLetter_0 ?_
  refine G_bipush (j := 97) hC (by decide +kernel) d_Si_isLetter_1 ?_
  refine G_icmp_lt hC 16 (by omega) (by decide) (by decide) d_Si_isLetter_3 (fun c_1 => ?_) (fun c_1 => ?_)
  · refine G_iconst (i := 0) hC d_Si_isLetter_16 ?_
    exact G_zretP hC hQ d_Si_isLetter_17 (b2i_f (decide_eq_false (by omega)))
  · refine G_iload_n hC 0 rfl rfl d_Si_isLetter_6 ?_
    refine G_bipush (j := 122) hC (by decide +kernel) d_Si_isLetter_7 ?_
    refine G_icmp_gt hC 16 (by omega) (by decide) (by decide) d_Si_isLetter_9 (fun c_2 => ?_) (fun c_2 => ?_)
    · refine G_iconst (i := 0) hC d_Si_isLetter_16 ?_
      exact G_zretP hC hQ d_Si_isLetter_17 (b2i_f (decide_eq_false (by omega)))
    · refine G_iconst (i := 1) hC d_Si_isLetter_12 ?_
      refine G_goto hC 17 (by decide) d_Si_isLetter_13 ?_
      exact G_zretP hC hQ d_Si_isLetter_17 (b2i_t (decide_eq_true (by omega)))

set_option maxHeartbeats 4000000 in
set_option maxRecDepth 100000 in
theorem c_Si_isNameSign {l : Launch} {D : Dg} {b0 : Nat} {M : Mp} {c : Int} (hc : -2147483648 ≤ c ∧ c ≤ 2147483647) : OkP l D b0 2 y_Si_isNameSign b_Si_isNameSign 1 (some .boolean) M [vI c] (vI (b2i (decide (nsP c)))) := by
  refine Ok_of rfl (Nat.le_of_ble_eq_true rfl) (fun E hC hQ hl hD hB hN hR => ?_)
  subst hl hD hB
  show G E M 0 0 [(0, vI c)] [] 0
  refine G_iload_n hC 0 rfl rfl d_Si_isNameSign_0 ?_
  refine G_pS (rest := []) hC hR (c_Si_isLetter (by omega)) cs_Si_9 (by decide) (by omega) (by omega) rfl rfl (Nat.le_of_ble_eq_true rfl) d_Si_isNameSign_1 ?_
  refine G_if_ne hC 26 (by have := b2i_rng (decide (letP c)); omega) (by decide) d_Si_isNameSign_4 (fun c_1 => ?_) (fun c_1 => ?_)
  · have c_1 := b2i_ne0.mp c_1
    have c_1 := of_decide_eq_true c_1
    refine G_iconst (i := 1) hC d_Si_isNameSign_26 ?_
    refine G_goto hC 31 (by decide) d_Si_isNameSign_27 ?_
    exact G_zretP hC hQ d_Si_isNameSign_31 (b2i_t (decide_eq_true (by omega)))
  · have c_1 := b2i_eq0.mp c_1
    have c_1 := of_decide_eq_false c_1
    refine G_iload_n hC 0 rfl rfl d_Si_isNameSign_7 ?_
    refine G_pS (rest := []) hC hR (c_Si_isDigit (by omega)) cs_Si_15 (by decide) (by omega) (by omega) rfl rfl (Nat.le_of_ble_eq_true rfl) d_Si_isNameSign_8 ?_
    refine G_if_ne hC 26 (by have := b2i_rng (decide (digP c)); omega) (by decide) d_Si_isNameSign_11 (fun c_2 => ?_) (fun c_2 => ?_)
    · have c_2 := b2i_ne0.mp c_2
      have c_2 := of_decide_eq_true c_2
      refine G_iconst (i := 1) hC d_Si_isNameSign_26 ?_
      refine G_goto hC 31 (by decide) d_Si_isNameSign_27 ?_
      exact G_zretP hC hQ d_Si_isNameSign_31 (b2i_t (decide_eq_true (by omega)))
    · have c_2 := b2i_eq0.mp c_2
      have c_2 := of_decide_eq_false c_2
      refine G_iload_n hC 0 rfl rfl d_Si_isNameSign_14 ?_
      refine G_bipush (j := 45) hC (by decide +kernel) d_Si_isNameSign_15 ?_
      refine G_icmp_eq hC 26 (by omega) (by decide) (by decide) d_Si_isNameSign_17 (fun c_3 => ?_) (fun c_3 => ?_)
      · refine G_iconst (i := 1) hC d_Si_isNameSign_26 ?_
        refine G_goto hC 31 (by decide) d_Si_isNameSign_27 ?_
        exact G_zretP hC hQ d_Si_isNameSign_31 (b2i_t (decide_eq_true (by omega)))
      · refine G_iload_n hC 0 rfl rfl d_Si_isNameSign_20 ?_
        refine G_bipush (j := 95) hC (by decide +kernel) d_Si_isNameSign_21 ?_
        refine G_icmp_ne hC 30 (by omega) (by decide) (by decide) d_Si_isNameSign_23 (fun c_4 => ?_) (fun c_4 => ?_)
        · refine G_iconst (i := 0) hC d_Si_isNameSign_30 ?_
          exact G_zretP hC hQ d_Si_isNameSign_31 (b2i_f (decide_eq_false (by omega)))
        · refine G_iconst (i := 1) hC d_Si_isNameSign_26 ?_
          refine G_goto hC 31 (by decide) d_Si_isNameSign_27 ?_
          exact G_zretP hC hQ d_Si_isNameSign_31 (b2i_t (decide_eq_true (by omega)))

set_option maxHeartbeats 4000000 in
set_option maxRecDepth 100000 in
theorem c_By_find {l : Launch} {D : Dg} {b0 : Nat} {M : Mp} {a : Nat} {c : Int} {fr : Int} {to : Int} {t : Nat} {lim : Int} {b : Bv} {z : Int} (h_B_a : IsB D M a t lim b) (hc : -2147483648 ≤ c ∧ c ≤ 2147483647) (hfr : -100000 ≤ fr ∧ fr ≤ 100000) (hto : -100000 ≤ to ∧ to ≤ 100000) (hr : findS b.2 c fr to = z) : OkP l D b0 2 y_By_find b_By_find 5 (some .int) M [.ref a, vI c, vI fr, vI to] (vI z) := by
  refine Ok_of rfl (Nat.le_of_ble_eq_true rfl) (fun E hC hQ hl hD hB hN hR => ?_)
  subst hl hD hB
  have hB9 := h_B_a.len
  show G E M 0 0 [(0, .ref a), (1, vI c), (2, vI fr), (3, vI to)] [] 0
  refine G_iload_n hC 2 rfl rfl d_By_find_0 ?_
  refine G_istore (lv' := [(4, vI fr), (0, .ref a), (1, vI c), (2, vI fr), (3, vI to)]) hC (by rw [hN]; decide) rfl d_By_find_1 ?_
  have L3 : ∀ (N : Nat) (k : Int), (to - k).toNat < N → (fr ≤ k ∧ (k ≤ to ∨ k = fr)) → (findS b.2 c k to = z) → G E M 0 0 [(0, .ref a), (1, vI c), (2, vI fr), (3, vI to), (4, vI k)] [] 3 := by
    intro N
    induction N with
    | zero => intro k hN3 hk hf; exact absurd hN3 (Nat.not_lt_zero _)
    | succ N ih3 =>
      intro k hN3 hk hf
      refine G_iload hC 4 rfl d_By_find_3 ?_
      refine G_iload_n hC 3 rfl rfl d_By_find_5 ?_
      refine G_icmp_ge hC 28 (by omega) (by omega) (by decide) d_By_find_6 (fun c_1 => ?_) (fun c_1 => ?_)
      · refine G_iload_n hC 3 rfl rfl d_By_find_28 ?_
        exact G_iretP hC hQ d_By_find_29 (by rw [findS] at hf; (repeat' split at hf); all_goals first | exact hf | (exfalso; omega) | omega)
      · refine G_aload_n hC 0 rfl rfl d_By_find_9 ?_
        refine G_iload hC 4 rfl d_By_find_10 ?_
        refine G_pV (rest := []) hC hR (c_By_at h_B_a (by omega)) cv_By_42 h_B_a.obj (by decide) (by omega) (by omega) rfl rfl (Nat.le_of_ble_eq_true rfl) d_By_find_12 ?_
        have g_2 := h_B_a.at_rng k
        refine G_iload_n hC 1 rfl rfl d_By_find_15 ?_
        refine G_icmp_ne hC 22 (by omega) (by omega) (by decide) d_By_find_16 (fun c_3 => ?_) (fun c_3 => ?_)
        · refine G_iinc (lv' := [(4, vI (k + 1)), (0, .ref a), (1, vI c), (2, vI fr), (3, vI to)]) hC 4 rfl (by rw [hN]; decide) rfl d_By_find_22 ?_
          refine G_goto hC 3 (by decide) d_By_find_25 ?_
          refine G_lv [1, 2, 3, 4, 0] rfl ?_
          exact ih3 (k + 1) (by omega) (by omega) (by rw [findS] at hf; (repeat' split at hf); all_goals first | exact hf | (exfalso; omega) | omega)
        · refine G_iload hC 4 rfl d_By_find_19 ?_
          exact G_iretP hC hQ d_By_find_21 (by rw [findS] at hf; (repeat' split at hf); all_goals first | exact hf | (exfalso; omega) | omega)
  refine G_lv [1, 2, 3, 4, 0] rfl ?_
  exact L3 _ fr (Nat.lt_succ_self _) (by omega) hr

set_option maxHeartbeats 4000000 in
set_option maxRecDepth 100000 in
theorem c_Si_isName {l : Launch} {D : Dg} {b0 : Nat} {M : Mp} {a : Nat} {fr : Int} {to : Int} {t : Nat} {lim : Int} {b : Bv} {B : Bool} (h_B_a : IsB D M a t lim b) (hfr : -100000 ≤ fr ∧ fr ≤ 100000) (hto : -100000 ≤ to ∧ to ≤ 100000) (hr : nameS b.2 fr to = B) : OkP l D b0 3 y_Si_isName b_Si_isName 6 (some .boolean) M [.ref a, vI fr, vI to] (vI (b2i B)) := by
  refine Ok_of rfl (Nat.le_of_ble_eq_true rfl) (fun E hC hQ hl hD hB hN hR => ?_)
  subst hl hD hB
  have hB9 := h_B_a.len
  unfold nameS at hr
  show G E M 0 0 [(0, .ref a), (1, vI fr), (2, vI to)] [] 0
  refine G_iload_n hC 2 rfl rfl d_Si_isName_0 ?_
  refine G_iload_n hC 1 rfl rfl d_Si_isName_1 ?_
  refine G_isub hC d_Si_isName_2 ?_
  refine G_bipush (j := 60) hC (by decide +kernel) d_Si_isName_3 ?_
  refine G_icmp_le hC 10 (by omega) (by decide) (by decide) d_Si_isName_5 (fun c_1 => ?_) (fun c_1 => ?_)
  · refine G_iconst (i := 0) hC d_Si_isName_10 ?_
    refine G_istore_n (lv' := [(3, vI 0), (0, .ref a), (1, vI fr), (2, vI to)]) hC rfl (by rw [hN]; decide) rfl d_Si_isName_11 ?_
    refine G_iload_n hC 2 rfl rfl d_Si_isName_12 ?_
    refine G_istore (lv' := [(4, vI fr), (3, vI 0), (0, .ref a), (1, vI fr), (2, vI to)]) hC (by rw [hN]; decide) rfl d_Si_isName_13 ?_
    have L15 : ∀ (N : Nat) (part : Int) (k : Int), (to - k).toNat < N → (fr ≤ k ∧ (k ≤ to ∨ k = fr)) → (0 ≤ part ∧ part ≤ 20) → (nameL b.2 to k part = B) → G E M 0 0 [(0, .ref a), (1, vI fr), (2, vI to), (3, vI part), (4, vI k)] [] 15 := by
      intro N
      induction N with
      | zero => intro part k hN15 hk hp hf; exact absurd hN15 (Nat.not_lt_zero _)
      | succ N ih15 =>
        intro part k hN15 hk hp hf
        refine G_iload hC 4 rfl d_Si_isName_15 ?_
        refine G_iload_n hC 2 rfl rfl d_Si_isName_17 ?_
        refine G_icmp_ge hC 73 (by omega) (by omega) (by decide) d_Si_isName_18 (fun c_2 => ?_) (fun c_2 => ?_)
        · refine G_iload_n hC 3 rfl rfl d_Si_isName_73 ?_
          refine G_if_le hC 81 (by omega) (by decide) d_Si_isName_74 (fun c_3 => ?_) (fun c_3 => ?_)
          · refine G_iconst (i := 0) hC d_Si_isName_81 ?_
            exact G_zretP hC hQ d_Si_isName_82 (b2i_f (by rw [nameL] at hf; (repeat' split at hf); all_goals first | exact hf.symm | (exfalso; omega) | (rw [← hf]; exact decide_eq_false (by omega))))
          · refine G_iconst (i := 1) hC d_Si_isName_77 ?_
            refine G_goto hC 82 (by decide) d_Si_isName_78 ?_
            exact G_zretP hC hQ d_Si_isName_82 (b2i_t (by rw [nameL] at hf; (repeat' split at hf); all_goals first | exact hf.symm | (exfalso; omega) | (rw [← hf]; exact decide_eq_true (by omega))))
        · refine G_aload_n hC 0 rfl rfl d_Si_isName_21 ?_
          refine G_iload hC 4 rfl d_Si_isName_22 ?_
          refine G_pV (rest := []) hC hR (c_By_at h_B_a (by omega)) cv_Si_18 h_B_a.obj (by decide) (by omega) (by omega) rfl rfl (Nat.le_of_ble_eq_true rfl) d_Si_isName_24 ?_
          have g_4 := h_B_a.at_rng k
          refine G_istore (lv' := [(5, vI (atS b.2 k)), (0, .ref a), (1, vI fr), (2, vI to), (3, vI part), (4, vI k)]) hC (by rw [hN]; decide) rfl d_Si_isName_27 ?_
          refine G_iload hC 0 rfl d_Si_isName_29 ?_
          refine G_bipush (j := 46) hC (by decide +kernel) d_Si_isName_31 ?_
          refine G_icmp_ne hC 45 (by omega) (by decide) (by decide) d_Si_isName_33 (fun c_5 => ?_) (fun c_5 => ?_)
          · refine G_iload hC 0 rfl d_Si_isName_45 ?_
            refine G_pS (rest := []) hC hR (c_Si_isNameSign (by omega)) cs_Si_24 (by decide) (by omega) (by omega) rfl rfl (Nat.le_of_ble_eq_true rfl) d_Si_isName_47 ?_
            refine G_if_eq hC 65 (by have := b2i_rng (decide (nsP (atS b.2 k))); omega) (by decide) d_Si_isName_50 (fun c_6 => ?_) (fun c_6 => ?_)
            · have c_6 := b2i_eq0.mp c_6
              have c_6 := of_decide_eq_false c_6
              refine G_iconst (i := 0) hC d_Si_isName_65 ?_
              exact G_zretP hC hQ d_Si_isName_66 (b2i_f (by rw [nameL] at hf; (repeat' split at hf); all_goals first | exact hf.symm | (exfalso; omega) | (rw [← hf]; exact decide_eq_false (by omega))))
            · have c_6 := b2i_ne0.mp c_6
              have c_6 := of_decide_eq_true c_6
              refine G_iload_n hC 4 rfl rfl d_Si_isName_53 ?_
              refine G_bipush (j := 20) hC (by decide +kernel) d_Si_isName_54 ?_
              refine G_icmp_ge hC 65 (by omega) (by decide) (by decide) d_Si_isName_56 (fun c_7 => ?_) (fun c_7 => ?_)
              · refine G_iconst (i := 0) hC d_Si_isName_65 ?_
                exact G_zretP hC hQ d_Si_isName_66 (b2i_f (by rw [nameL] at hf; (repeat' split at hf); all_goals first | exact hf.symm | (exfalso; omega) | (rw [← hf]; exact decide_eq_false (by omega))))
              · refine G_iinc (lv' := [(3, vI (part + 1)), (5, vI (atS b.2 k)), (0, .ref a), (1, vI fr), (2, vI to), (4, vI k)]) hC 4 rfl (by rw [hN]; decide) rfl d_Si_isName_59 ?_
                refine G_goto hC 67 (by decide) d_Si_isName_62 ?_
                refine G_iinc (lv' := [(4, vI (k + 1)), (3, vI (part + 1)), (5, vI (atS b.2 k)), (0, .ref a), (1, vI fr), (2, vI to)]) hC 5 rfl (by rw [hN]; decide) rfl d_Si_isName_67 ?_
                refine G_goto hC 15 (by decide) d_Si_isName_70 ?_
                refine G_lv [3, 4, 5, 1, 0] rfl ?_
                exact ih15 (part + 1) (k + 1) (by omega) (by omega) (by omega) (by rw [nameL] at hf; (repeat' split at hf); all_goals first | exact hf | (exfalso; omega) | omega)
          · refine G_iload_n hC 4 rfl rfl d_Si_isName_36 ?_
            refine G_if_le hC 45 (by omega) (by decide) d_Si_isName_37 (fun c_8 => ?_) (fun c_8 => ?_)
            · refine G_iload hC 0 rfl d_Si_isName_45 ?_
              refine G_pS (rest := []) hC hR (c_Si_isNameSign (by omega)) cs_Si_24 (by decide) (by omega) (by omega) rfl rfl (Nat.le_of_ble_eq_true rfl) d_Si_isName_47 ?_
              refine G_if_eq hC 65 (by have := b2i_rng (decide (nsP (atS b.2 k))); omega) (by decide) d_Si_isName_50 (fun c_9 => ?_) (fun c_9 => ?_)
              · have c_9 := b2i_eq0.mp c_9
                have c_9 := of_decide_eq_false c_9
                refine G_iconst (i := 0) hC d_Si_isName_65 ?_
                exact G_zretP hC hQ d_Si_isName_66 (b2i_f (by rw [nameL] at hf; (repeat' split at hf); all_goals first | exact hf.symm | (exfalso; omega) | (rw [← hf]; exact decide_eq_false (by omega))))
              · have c_9 := b2i_ne0.mp c_9
                have c_9 := of_decide_eq_true c_9
                refine G_iload_n hC 4 rfl rfl d_Si_isName_53 ?_
                refine G_bipush (j := 20) hC (by decide +kernel) d_Si_isName_54 ?_
                refine G_icmp_ge hC 65 (by omega) (by decide) (by decide) d_Si_isName_56 (fun c_10 => ?_) (fun c_10 => ?_)
                · refine G_iconst (i := 0) hC d_Si_isName_65 ?_
                  exact G_zretP hC hQ d_Si_isName_66 (b2i_f (by rw [nameL] at hf; (repeat' split at hf); all_goals first | exact hf.symm | (exfalso; omega) | (rw [← hf]; exact decide_eq_false (by omega))))
                · refine G_iinc (lv' := [(3, vI (part + 1)), (5, vI (atS b.2 k)), (0, .ref a), (1, vI fr), (2, vI to), (4, vI k)]) hC 4 rfl (by rw [hN]; decide) rfl d_Si_isName_59 ?_
                  refine G_goto hC 67 (by decide) d_Si_isName_62 ?_
                  refine G_iinc (lv' := [(4, vI (k + 1)), (3, vI (part + 1)), (5, vI (atS b.2 k)), (0, .ref a), (1, vI fr), (2, vI to)]) hC 5 rfl (by rw [hN]; decide) rfl d_Si_isName_67 ?_
                  refine G_goto hC 15 (by decide) d_Si_isName_70 ?_
                  refine G_lv [3, 4, 5, 1, 0] rfl ?_
                  exact ih15 (part + 1) (k + 1) (by omega) (by omega) (by omega) (by rw [nameL] at hf; (repeat' split at hf); all_goals first | exact hf | (exfalso; omega) | omega)
            · refine G_iconst (i := 0) hC d_Si_isName_40 ?_
              refine G_istore_n (lv' := [(3, vI 0), (5, vI (atS b.2 k)), (0, .ref a), (1, vI fr), (2, vI to), (4, vI k)]) hC rfl (by rw [hN]; decide) rfl d_Si_isName_41 ?_
              refine G_goto hC 67 (by decide) d_Si_isName_42 ?_
              refine G_iinc (lv' := [(4, vI (k + 1)), (3, vI 0), (5, vI (atS b.2 k)), (0, .ref a), (1, vI fr), (2, vI to)]) hC 5 rfl (by rw [hN]; decide) rfl d_Si_isName_67 ?_
              refine G_goto hC 15 (by decide) d_Si_isName_70 ?_
              refine G_lv [3, 4, 5, 1, 0] rfl ?_
              exact ih15 0 (k + 1) (by omega) (by omega) (by omega) (by rw [nameL] at hf; (repeat' split at hf); all_goals first | exact hf | (exfalso; omega) | omega)
    refine G_lv [2, 3, 4, 1, 0] rfl ?_
    exact L15 _ 0 fr (Nat.lt_succ_self _) (by omega) (by omega) (by rw [if_neg (by omega)] at hr; exact hr)
  · refine G_iconst (i := 0) hC d_Si_isName_8 ?_
    exact G_zretP hC hQ d_Si_isName_9 (b2i_f (by (repeat' split at hr); all_goals first | exact hr.symm | (exfalso; omega) | (rw [← hr]; exact decide_eq_false (by omega))))

set_option maxHeartbeats 4000000 in
set_option maxRecDepth 100000 in
theorem c_Si_isLocal {l : Launch} {D : Dg} {b0 : Nat} {M : Mp} {a : Nat} {fr : Int} {to : Int} {t : Nat} {lim : Int} {b : Bv} {B : Bool} (h_B_a : IsB D M a t lim b) (hfr : -100000 ≤ fr ∧ fr ≤ 100000) (hto : -100000 ≤ to ∧ to ≤ 100000) (hr : locaS b.2 fr to = B) : OkP l D b0 3 y_Si_isLocal b_Si_isLocal 5 (some .boolean) M [.ref a, vI fr, vI to] (vI (b2i B)) := by
  refine Ok_of rfl (Nat.le_of_ble_eq_true rfl) (fun E hC hQ hl hD hB hN hR => ?_)
  subst hl hD hB
  have hB9 := h_B_a.len
  unfold locaS at hr
  show G E M 0 0 [(0, .ref a), (1, vI fr), (2, vI to)] [] 0
  refine G_iload_n hC 2 rfl rfl d_Si_isLocal_0 ?_
  refine G_iload_n hC 1 rfl rfl d_Si_isLocal_1 ?_
  refine G_icmp_le hC 13 (by omega) (by omega) (by decide) d_Si_isLocal_2 (fun c_1 => ?_) (fun c_1 => ?_)
  · refine G_iconst (i := 0) hC d_Si_isLocal_13 ?_
    exact G_zretP hC hQ d_Si_isLocal_14 (b2i_f (by (repeat' split at hr); all_goals first | exact hr.symm | (exfalso; omega) | (rw [← hr]; exact decide_eq_false (by omega))))
  · refine G_iload_n hC 2 rfl rfl d_Si_isLocal_5 ?_
    refine G_iload_n hC 1 rfl rfl d_Si_isLocal_6 ?_
    refine G_isub hC d_Si_isLocal_7 ?_
    refine G_bipush (j := 30) hC (by decide +kernel) d_Si_isLocal_8 ?_
    refine G_icmp_le hC 15 (by omega) (by decide) (by decide) d_Si_isLocal_10 (fun c_2 => ?_) (fun c_2 => ?_)
    · refine G_iload_n hC 1 rfl rfl d_Si_isLocal_15 ?_
      refine G_istore_n (lv' := [(3, vI fr), (0, .ref a), (1, vI fr), (2, vI to)]) hC rfl (by rw [hN]; decide) rfl d_Si_isLocal_16 ?_
      have L17 : ∀ (N : Nat) (k : Int), (to - k).toNat < N → (fr ≤ k ∧ (k ≤ to ∨ k = fr)) → (locaL b.2 to k = B) → G E M 0 0 [(0, .ref a), (1, vI fr), (2, vI to), (3, vI k)] [] 17 := by
        intro N
        induction N with
        | zero => intro k hN17 hk hf; exact absurd hN17 (Nat.not_lt_zero _)
        | succ N ih17 =>
          intro k hN17 hk hf
          refine G_iload_n hC 3 rfl rfl d_Si_isLocal_17 ?_
          refine G_iload_n hC 2 rfl rfl d_Si_isLocal_18 ?_
          refine G_icmp_ge hC 59 (by omega) (by omega) (by decide) d_Si_isLocal_19 (fun c_3 => ?_) (fun c_3 => ?_)
          · refine G_iconst (i := 1) hC d_Si_isLocal_59 ?_
            exact G_zretP hC hQ d_Si_isLocal_60 (b2i_t (by rw [locaL] at hf; (repeat' split at hf); all_goals first | exact hf.symm | (exfalso; omega) | (rw [← hf]; exact decide_eq_true (by omega))))
          · refine G_aload_n hC 0 rfl rfl d_Si_isLocal_22 ?_
            refine G_iload_n hC 3 rfl rfl d_Si_isLocal_23 ?_
            refine G_pV (rest := []) hC hR (c_By_at h_B_a (by omega)) cv_Si_18 h_B_a.obj (by decide) (by omega) (by omega) rfl rfl (Nat.le_of_ble_eq_true rfl) d_Si_isLocal_24 ?_
            have g_4 := h_B_a.at_rng k
            refine G_istore (lv' := [(4, vI (atS b.2 k)), (0, .ref a), (1, vI fr), (2, vI to), (3, vI k)]) hC (by rw [hN]; decide) rfl d_Si_isLocal_27 ?_
            refine G_iload hC 0 rfl d_Si_isLocal_29 ?_
            refine G_pS (rest := []) hC hR (c_Si_isNameSign (by omega)) cs_Si_24 (by decide) (by omega) (by omega) rfl rfl (Nat.le_of_ble_eq_true rfl) d_Si_isLocal_31 ?_
            refine G_if_ne hC 53 (by have := b2i_rng (decide (nsP (atS b.2 k))); omega) (by decide) d_Si_isLocal_34 (fun c_5 => ?_) (fun c_5 => ?_)
            · have c_5 := b2i_ne0.mp c_5
              have c_5 := of_decide_eq_true c_5
              refine G_iinc (lv' := [(3, vI (k + 1)), (4, vI (atS b.2 k)), (0, .ref a), (1, vI fr), (2, vI to)]) hC 4 rfl (by rw [hN]; decide) rfl d_Si_isLocal_53 ?_
              refine G_goto hC 17 (by decide) d_Si_isLocal_56 ?_
              refine G_lv [2, 3, 4, 0] rfl ?_
              exact ih17 (k + 1) (by omega) (by omega) (by rw [locaL] at hf; (repeat' split at hf); all_goals first | exact hf | (exfalso; omega) | omega)
            · have c_5 := b2i_eq0.mp c_5
              have c_5 := of_decide_eq_false c_5
              refine G_iload hC 0 rfl d_Si_isLocal_37 ?_
              refine G_bipush (j := 46) hC (by decide +kernel) d_Si_isLocal_39 ?_
              refine G_icmp_eq hC 53 (by omega) (by decide) (by decide) d_Si_isLocal_41 (fun c_6 => ?_) (fun c_6 => ?_)
              · refine G_iinc (lv' := [(3, vI (k + 1)), (4, vI (atS b.2 k)), (0, .ref a), (1, vI fr), (2, vI to)]) hC 4 rfl (by rw [hN]; decide) rfl d_Si_isLocal_53 ?_
                refine G_goto hC 17 (by decide) d_Si_isLocal_56 ?_
                refine G_lv [2, 3, 4, 0] rfl ?_
                exact ih17 (k + 1) (by omega) (by omega) (by rw [locaL] at hf; (repeat' split at hf); all_goals first | exact hf | (exfalso; omega) | omega)
              · refine G_iload hC 0 rfl d_Si_isLocal_44 ?_
                refine G_bipush (j := 43) hC (by decide +kernel) d_Si_isLocal_46 ?_
                refine G_icmp_eq hC 53 (by omega) (by decide) (by decide) d_Si_isLocal_48 (fun c_7 => ?_) (fun c_7 => ?_)
                · refine G_iinc (lv' := [(3, vI (k + 1)), (4, vI (atS b.2 k)), (0, .ref a), (1, vI fr), (2, vI to)]) hC 4 rfl (by rw [hN]; decide) rfl d_Si_isLocal_53 ?_
                  refine G_goto hC 17 (by decide) d_Si_isLocal_56 ?_
                  refine G_lv [2, 3, 4, 0] rfl ?_
                  exact ih17 (k + 1) (by omega) (by omega) (by rw [locaL] at hf; (repeat' split at hf); all_goals first | exact hf | (exfalso; omega) | omega)
                · refine G_iconst (i := 0) hC d_Si_isLocal_51 ?_
                  exact G_zretP hC hQ d_Si_isLocal_52 (b2i_f (by rw [locaL] at hf; (repeat' split at hf); all_goals first | exact hf.symm | (exfalso; omega) | (rw [← hf]; exact decide_eq_false (by omega))))
      refine G_lv [1, 2, 3, 0] rfl ?_
      exact L17 _ fr (Nat.lt_succ_self _) (by omega) (by rw [if_neg (by omega)] at hr; exact hr)
    · refine G_iconst (i := 0) hC d_Si_isLocal_13 ?_
      exact G_zretP hC hQ d_Si_isLocal_14 (b2i_f (by (repeat' split at hr); all_goals first | exact hr.symm | (exfalso; omega) | (rw [← hr]; exact decide_eq_false (by omega))))

set_option maxHeartbeats 4000000 in
set_option maxRecDepth 100000 in
theorem c_Si_isWord {l : Launch} {D : Dg} {b0 : Nat} {M : Mp} {a : Nat} {fr : Int} {to : Int} {t : Nat} {lim : Int} {b : Bv} {B : Bool} (h_B_a : IsB D M a t lim b) (hfr : -100000 ≤ fr ∧ fr ≤ 100000) (hto : -100000 ≤ to ∧ to ≤ 100000) (hr : wordS b.2 fr to = B) : OkP l D b0 3 y_Si_isWord b_Si_isWord 4 (some .boolean) M [.ref a, vI fr, vI to] (vI (b2i B)) := by
  refine Ok_of rfl (Nat.le_of_ble_eq_true rfl) (fun E hC hQ hl hD hB hN hR => ?_)
  subst hl hD hB
  have hB9 := h_B_a.len
  unfold wordS at hr
  show G E M 0 0 [(0, .ref a), (1, vI fr), (2, vI to)] [] 0
  refine G_iload_n hC 2 rfl rfl d_Si_isWord_0 ?_
  refine G_iload_n hC 1 rfl rfl d_Si_isWord_1 ?_
  refine G_icmp_le hC 16 (by omega) (by omega) (by decide) d_Si_isWord_2 (fun c_1 => ?_) (fun c_1 => ?_)
  · refine G_iconst (i := 0) hC d_Si_isWord_16 ?_
    exact G_zretP hC hQ d_Si_isWord_17 (b2i_f (by (repeat' split at hr); all_goals first | exact hr.symm | (exfalso; omega) | (rw [← hr]; exact decide_eq_false (by omega))))
  · refine G_aload_n hC 0 rfl rfl d_Si_isWord_5 ?_
    refine G_iload_n hC 1 rfl rfl d_Si_isWord_6 ?_
    refine G_pV (rest := []) hC hR (c_By_at h_B_a (by omega)) cv_Si_18 h_B_a.obj (by decide) (by omega) (by omega) rfl rfl (Nat.le_of_ble_eq_true rfl) d_Si_isWord_7 ?_
    have g_2 := h_B_a.at_rng fr
    refine G_pS (rest := []) hC hR (c_Si_isLetter (by omega)) cs_Si_9 (by decide) (by omega) (by omega) rfl rfl (Nat.le_of_ble_eq_true rfl) d_Si_isWord_10 ?_
    refine G_if_ne hC 18 (by have := b2i_rng (decide (letP (atS b.2 fr))); omega) (by decide) d_Si_isWord_13 (fun c_3 => ?_) (fun c_3 => ?_)
    · have c_3 := b2i_ne0.mp c_3
      have c_3 := of_decide_eq_true c_3
      refine G_iload_n hC 1 rfl rfl d_Si_isWord_18 ?_
      refine G_istore_n (lv' := [(3, vI fr), (0, .ref a), (1, vI fr), (2, vI to)]) hC rfl (by rw [hN]; decide) rfl d_Si_isWord_19 ?_
      have L20 : ∀ (N : Nat) (k : Int), (to - k).toNat < N → (fr ≤ k ∧ (k ≤ to ∨ k = fr)) → (wordL b.2 to k = B) → G E M 0 0 [(0, .ref a), (1, vI fr), (2, vI to), (3, vI k)] [] 20 := by
        intro N
        induction N with
        | zero => intro k hN20 hk hf; exact absurd hN20 (Nat.not_lt_zero _)
        | succ N ih20 =>
          intro k hN20 hk hf
          refine G_iload_n hC 3 rfl rfl d_Si_isWord_20 ?_
          refine G_iload_n hC 2 rfl rfl d_Si_isWord_21 ?_
          refine G_icmp_ge hC 54 (by omega) (by omega) (by decide) d_Si_isWord_22 (fun c_4 => ?_) (fun c_4 => ?_)
          · refine G_iconst (i := 1) hC d_Si_isWord_54 ?_
            exact G_zretP hC hQ d_Si_isWord_55 (b2i_t (by rw [wordL] at hf; (repeat' split at hf); all_goals first | exact hf.symm | (exfalso; omega) | (rw [← hf]; exact decide_eq_true (by omega))))
          · refine G_aload_n hC 0 rfl rfl d_Si_isWord_25 ?_
            refine G_iload_n hC 3 rfl rfl d_Si_isWord_26 ?_
            refine G_pV (rest := []) hC hR (c_By_at h_B_a (by omega)) cv_Si_18 h_B_a.obj (by decide) (by omega) (by omega) rfl rfl (Nat.le_of_ble_eq_true rfl) d_Si_isWord_27 ?_
            have g_5 := h_B_a.at_rng k
            refine G_pS (rest := []) hC hR (c_Si_isNameSign (by omega)) cs_Si_24 (by decide) (by omega) (by omega) rfl rfl (Nat.le_of_ble_eq_true rfl) d_Si_isWord_30 ?_
            refine G_if_ne hC 48 (by have := b2i_rng (decide (nsP (atS b.2 k))); omega) (by decide) d_Si_isWord_33 (fun c_6 => ?_) (fun c_6 => ?_)
            · have c_6 := b2i_ne0.mp c_6
              have c_6 := of_decide_eq_true c_6
              refine G_iinc (lv' := [(3, vI (k + 1)), (0, .ref a), (1, vI fr), (2, vI to)]) hC 3 rfl (by rw [hN]; decide) rfl d_Si_isWord_48 ?_
              refine G_goto hC 20 (by decide) d_Si_isWord_51 ?_
              refine G_lv [1, 2, 3, 0] rfl ?_
              exact ih20 (k + 1) (by omega) (by omega) (by rw [wordL] at hf; (repeat' split at hf); all_goals first | exact hf | (exfalso; omega) | omega)
            · have c_6 := b2i_eq0.mp c_6
              have c_6 := of_decide_eq_false c_6
              refine G_aload_n hC 0 rfl rfl d_Si_isWord_36 ?_
              refine G_iload_n hC 3 rfl rfl d_Si_isWord_37 ?_
              refine G_pV (rest := []) hC hR (c_By_at h_B_a (by omega)) cv_Si_18 h_B_a.obj (by decide) (by omega) (by omega) rfl rfl (Nat.le_of_ble_eq_true rfl) d_Si_isWord_38 ?_
              have g_7 := h_B_a.at_rng k
              refine G_bipush (j := 46) hC (by decide +kernel) d_Si_isWord_41 ?_
              refine G_icmp_eq hC 48 (by omega) (by decide) (by decide) d_Si_isWord_43 (fun c_8 => ?_) (fun c_8 => ?_)
              · refine G_iinc (lv' := [(3, vI (k + 1)), (0, .ref a), (1, vI fr), (2, vI to)]) hC 3 rfl (by rw [hN]; decide) rfl d_Si_isWord_48 ?_
                refine G_goto hC 20 (by decide) d_Si_isWord_51 ?_
                refine G_lv [1, 2, 3, 0] rfl ?_
                exact ih20 (k + 1) (by omega) (by omega) (by rw [wordL] at hf; (repeat' split at hf); all_goals first | exact hf | (exfalso; omega) | omega)
              · refine G_iconst (i := 0) hC d_Si_isWord_46 ?_
                exact G_zretP hC hQ d_Si_isWord_47 (b2i_f (by rw [wordL] at hf; (repeat' split at hf); all_goals first | exact hf.symm | (exfalso; omega) | (rw [← hf]; exact decide_eq_false (by omega))))
      refine G_lv [1, 2, 3, 0] rfl ?_
      exact L20 _ fr (Nat.lt_succ_self _) (by omega) (by rw [if_neg (by omega)] at hr; exact hr)
    · have c_3 := b2i_eq0.mp c_3
      have c_3 := of_decide_eq_false c_3
      refine G_iconst (i := 0) hC d_Si_isWord_16 ?_
      exact G_zretP hC hQ d_Si_isWord_17 (b2i_f (by (repeat' split at hr); all_goals first | exact hr.symm | (exfalso; omega) | (rw [← hr]; exact decide_eq_false (by omega))))

set_option maxHeartbeats 4000000 in
set_option maxRecDepth 100000 in
theorem c_Ma_isMacroLetter {l : Launch} {D : Dg} {b0 : Nat} {M : Mp} {c : Int} (hc : -2147483648 ≤ c ∧ c ≤ 2147483647) : OkP l D b0 1 y_Ma_isMacroLetter b_Ma_isMacroLetter 1 (some .boolean) M [vI c] (vI (b2i (decide (mlP c)))) := by
  refine Ok_of rfl (Nat.le_of_ble_eq_true rfl) (fun E hC hQ hl hD hB hN hR => ?_)
  subst hl hD hB
  show G E M 0 0 [(0, vI c)] [] 0
  refine G_iload_n hC 0 rfl rfl d_Ma_isMacroLetter_0 ?_
  refine G_bipush (j := 115) hC (by decide +kernel) d_Ma_isMacroLetter_1 ?_
  refine G_icmp_eq hC 30 (by omega) (by decide) (by decide) d_Ma_isMacroLetter_3 (fun c_1 => ?_) (fun c_1 => ?_)
  · refine G_iconst (i := 1) hC d_Ma_isMacroLetter_30 ?_
    refine G_goto hC 35 (by decide) d_Ma_isMacroLetter_31 ?_
    exact G_zretP hC hQ d_Ma_isMacroLetter_35 (b2i_t (decide_eq_true (by omega)))
  · refine G_iload_n hC 0 rfl rfl d_Ma_isMacroLetter_6 ?_
    refine G_bipush (j := 108) hC (by decide +kernel) d_Ma_isMacroLetter_7 ?_
    refine G_icmp_eq hC 30 (by omega) (by decide) (by decide) d_Ma_isMacroLetter_9 (fun c_2 => ?_) (fun c_2 => ?_)
    · refine G_iconst (i := 1) hC d_Ma_isMacroLetter_30 ?_
      refine G_goto hC 35 (by decide) d_Ma_isMacroLetter_31 ?_
      exact G_zretP hC hQ d_Ma_isMacroLetter_35 (b2i_t (decide_eq_true (by omega)))
    · refine G_iload_n hC 0 rfl rfl d_Ma_isMacroLetter_12 ?_
      refine G_bipush (j := 111) hC (by decide +kernel) d_Ma_isMacroLetter_13 ?_
      refine G_icmp_eq hC 30 (by omega) (by decide) (by decide) d_Ma_isMacroLetter_15 (fun c_3 => ?_) (fun c_3 => ?_)
      · refine G_iconst (i := 1) hC d_Ma_isMacroLetter_30 ?_
        refine G_goto hC 35 (by decide) d_Ma_isMacroLetter_31 ?_
        exact G_zretP hC hQ d_Ma_isMacroLetter_35 (b2i_t (decide_eq_true (by omega)))
      · refine G_iload_n hC 0 rfl rfl d_Ma_isMacroLetter_18 ?_
        refine G_bipush (j := 100) hC (by decide +kernel) d_Ma_isMacroLetter_19 ?_
        refine G_icmp_eq hC 30 (by omega) (by decide) (by decide) d_Ma_isMacroLetter_21 (fun c_4 => ?_) (fun c_4 => ?_)
        · refine G_iconst (i := 1) hC d_Ma_isMacroLetter_30 ?_
          refine G_goto hC 35 (by decide) d_Ma_isMacroLetter_31 ?_
          exact G_zretP hC hQ d_Ma_isMacroLetter_35 (b2i_t (decide_eq_true (by omega)))
        · refine G_iload_n hC 0 rfl rfl d_Ma_isMacroLetter_24 ?_
          refine G_bipush (j := 105) hC (by decide +kernel) d_Ma_isMacroLetter_25 ?_
          refine G_icmp_ne hC 34 (by omega) (by decide) (by decide) d_Ma_isMacroLetter_27 (fun c_5 => ?_) (fun c_5 => ?_)
          · refine G_iconst (i := 0) hC d_Ma_isMacroLetter_34 ?_
            exact G_zretP hC hQ d_Ma_isMacroLetter_35 (b2i_f (decide_eq_false (by omega)))
          · refine G_iconst (i := 1) hC d_Ma_isMacroLetter_30 ?_
            refine G_goto hC 35 (by decide) d_Ma_isMacroLetter_31 ?_
            exact G_zretP hC hQ d_Ma_isMacroLetter_35 (b2i_t (decide_eq_true (by omega)))

set_option maxHeartbeats 4000000 in
set_option maxRecDepth 100000 in
theorem c_Ma_isPartNumber {l : Launch} {D : Dg} {b0 : Nat} {M : Mp} {c : Int} (hc : -2147483648 ≤ c ∧ c ≤ 2147483647) : OkP l D b0 1 y_Ma_isPartNumber b_Ma_isPartNumber 1 (some .boolean) M [vI c] (vI (b2i (decide (pnP c)))) := by
  refine Ok_of rfl (Nat.le_of_ble_eq_true rfl) (fun E hC hQ hl hD hB hN hR => ?_)
  subst hl hD hB
  show G E M 0 0 [(0, vI c)] [] 0
  refine G_iload_n hC 0 rfl rfl d_Ma_isPartNumber_0 ?_
  refine G_bipush (j := 49) hC (by decide +kernel) d_Ma_isPartNumber_1 ?_
  refine G_icmp_lt hC 16 (by omega) (by decide) (by decide) d_Ma_isPartNumber_3 (fun c_1 => ?_) (fun c_1 => ?_)
  · refine G_iconst (i := 0) hC d_Ma_isPartNumber_16 ?_
    exact G_zretP hC hQ d_Ma_isPartNumber_17 (b2i_f (decide_eq_false (by omega)))
  · refine G_iload_n hC 0 rfl rfl d_Ma_isPartNumber_6 ?_
    refine G_bipush (j := 57) hC (by decide +kernel) d_Ma_isPartNumber_7 ?_
    refine G_icmp_gt hC 16 (by omega) (by decide) (by decide) d_Ma_isPartNumber_9 (fun c_2 => ?_) (fun c_2 => ?_)
    · refine G_iconst (i := 0) hC d_Ma_isPartNumber_16 ?_
      exact G_zretP hC hQ d_Ma_isPartNumber_17 (b2i_f (decide_eq_false (by omega)))
    · refine G_iconst (i := 1) hC d_Ma_isPartNumber_12 ?_
      refine G_goto hC 17 (by decide) d_Ma_isPartNumber_13 ?_
      exact G_zretP hC hQ d_Ma_isPartNumber_17 (b2i_t (decide_eq_true (by omega)))

set_option maxHeartbeats 4000000 in
set_option maxRecDepth 100000 in
theorem c_Ma_macroLength {l : Launch} {D : Dg} {b0 : Nat} {M : Mp} {a : Nat} {q : Int} {to : Int} {t : Nat} {lim : Int} {b : Bv} {z : Int} (h_B_a : IsB D M a t lim b) (hq : -100000 ≤ q ∧ q ≤ 100000) (hto : -100000 ≤ to ∧ to ≤ 100000) (hr : mlenS b.2 q to = z) : OkP l D b0 2 y_Ma_macroLength b_Ma_macroLength 5 (some .int) M [.ref a, vI q, vI to] (vI z) := by
  refine Ok_of rfl (Nat.le_of_ble_eq_true rfl) (fun E hC hQ hl hD hB hN hR => ?_)
  subst hl hD hB
  have hB9 := h_B_a.len
  unfold mlenS at hr
  dsimp only at hr
  show G E M 0 0 [(0, .ref a), (1, vI q), (2, vI to)] [] 0
  refine G_iload_n hC 1 rfl rfl d_Ma_macroLength_0 ?_
  refine G_iconst (i := 1) hC d_Ma_macroLength_1 ?_
  refine G_iadd hC d_Ma_macroLength_2 ?_
  refine G_iload_n hC 2 rfl rfl d_Ma_macroLength_3 ?_
  refine G_icmp_ge hC 17 (by omega) (by omega) (by decide) d_Ma_macroLength_4 (fun c_1 => ?_) (fun c_1 => ?_)
  · refine G_iconst (i := (-1)) hC d_Ma_macroLength_17 ?_
    refine G_istore_n (lv' := [(3, vI (-1)), (0, .ref a), (1, vI q), (2, vI to)]) hC rfl (by rw [hN]; decide) rfl d_Ma_macroLength_18 ?_
    refine G_iload_n hC 0 rfl rfl d_Ma_macroLength_19 ?_
    refine G_bipush (j := 37) hC (by decide +kernel) d_Ma_macroLength_20 ?_
    refine G_icmp_eq hC 37 (by decide) (by decide) (by decide) d_Ma_macroLength_22 (fun c_2 => ?_) (fun c_2 => ?_)
    · refine G_iconst (i := 2) hC d_Ma_macroLength_37 ?_
      exact G_iretP hC hQ d_Ma_macroLength_38 (by (repeat' split at hr); all_goals omega)
    · refine G_iload_n hC 0 rfl rfl d_Ma_macroLength_25 ?_
      refine G_bipush (j := 95) hC (by decide +kernel) d_Ma_macroLength_26 ?_
      refine G_icmp_eq hC 37 (by decide) (by decide) (by decide) d_Ma_macroLength_28 (fun c_3 => ?_) (fun c_3 => ?_)
      · refine G_iconst (i := 2) hC d_Ma_macroLength_37 ?_
        exact G_iretP hC hQ d_Ma_macroLength_38 (by (repeat' split at hr); all_goals omega)
      · refine G_iload_n hC 0 rfl rfl d_Ma_macroLength_31 ?_
        refine G_bipush (j := 45) hC (by decide +kernel) d_Ma_macroLength_32 ?_
        refine G_icmp_ne hC 39 (by decide) (by decide) (by decide) d_Ma_macroLength_34 (fun c_4 => ?_) (fun c_4 => ?_)
        · refine G_iload_n hC 0 rfl rfl d_Ma_macroLength_39 ?_
          refine G_bipush (j := 123) hC (by decide +kernel) d_Ma_macroLength_40 ?_
          refine G_icmp_ne hC 65 (by decide) (by decide) (by decide) d_Ma_macroLength_42 (fun c_5 => ?_) (fun c_5 => ?_)
          · refine G_iconst (i := 0) hC d_Ma_macroLength_65 ?_
            exact G_iretP hC hQ d_Ma_macroLength_66 (by (repeat' split at hr); all_goals omega)
          · refine G_iload_n hC 2 rfl rfl d_Ma_macroLength_45 ?_
            refine G_iconst (i := 2) hC d_Ma_macroLength_46 ?_
            refine G_iadd hC d_Ma_macroLength_47 ?_
            refine G_iload_n hC 3 rfl rfl d_Ma_macroLength_48 ?_
            refine G_icmp_ge hC 65 (by omega) (by omega) (by decide) d_Ma_macroLength_49 (fun c_6 => ?_) (fun c_6 => ?_)
            · refine G_iconst (i := 0) hC d_Ma_macroLength_65 ?_
              exact G_iretP hC hQ d_Ma_macroLength_66 (by (repeat' split at hr); all_goals omega)
            · refine G_aload_n hC 1 rfl rfl d_Ma_macroLength_52 ?_
              refine G_iload_n hC 2 rfl rfl d_Ma_macroLength_53 ?_
              refine G_iconst (i := 2) hC d_Ma_macroLength_54 ?_
              refine G_iadd hC d_Ma_macroLength_55 ?_
              refine G_pV (rest := []) hC hR (c_By_at h_B_a (by omega)) cv_Ma_19 h_B_a.obj (by decide) (by omega) (by omega) rfl rfl (Nat.le_of_ble_eq_true rfl) d_Ma_macroLength_56 ?_
              have g_7 := h_B_a.at_rng (q + 2)
              refine G_pS (rest := []) hC hR (c_Ma_isMacroLetter (by omega)) cs_Ma_29 (by decide) (by omega) (by omega) rfl rfl (Nat.le_of_ble_eq_true rfl) d_Ma_macroLength_59 ?_
              refine G_if_ne hC 67 (by have := b2i_rng (decide (mlP (atS b.2 (q + 2)))); omega) (by decide) d_Ma_macroLength_62 (fun c_8 => ?_) (fun c_8 => ?_)
              · have c_8 := b2i_ne0.mp c_8
                have c_8 := of_decide_eq_true c_8
                refine G_iload_n hC 2 rfl rfl d_Ma_macroLength_67 ?_
                refine G_iconst (i := 3) hC d_Ma_macroLength_68 ?_
                refine G_iadd hC d_Ma_macroLength_69 ?_
                refine G_istore (lv' := [(4, vI (q + 3)), (3, vI (-1)), (0, .ref a), (1, vI q), (2, vI to)]) hC (by rw [hN]; decide) rfl d_Ma_macroLength_70 ?_
                refine G_aload_n hC 2 rfl rfl d_Ma_macroLength_72 ?_
                refine G_iload hC 0 rfl d_Ma_macroLength_73 ?_
                refine G_pV (rest := []) hC hR (c_By_at h_B_a (by omega)) cv_Ma_19 h_B_a.obj (by decide) (by omega) (by omega) rfl rfl (Nat.le_of_ble_eq_true rfl) d_Ma_macroLength_75 ?_
                have g_9 := h_B_a.at_rng (q + 3)
                refine G_pS (rest := []) hC hR (c_Ma_isPartNumber (by omega)) cs_Ma_33 (by decide) (by omega) (by omega) rfl rfl (Nat.le_of_ble_eq_true rfl) d_Ma_macroLength_78 ?_
                refine G_if_eq hC 87 (by have := b2i_rng (decide (pnP (atS b.2 (q + 3)))); omega) (by decide) d_Ma_macroLength_81 (fun c_10 => ?_) (fun c_10 => ?_)
                · have c_10 := b2i_eq0.mp c_10
                  have c_10 := of_decide_eq_false c_10
                  refine G_aload_n hC 2 rfl rfl d_Ma_macroLength_87 ?_
                  refine G_iload hC 0 rfl d_Ma_macroLength_88 ?_
                  refine G_pV (rest := []) hC hR (c_By_at h_B_a (by omega)) cv_Ma_19 h_B_a.obj (by decide) (by omega) (by omega) rfl rfl (Nat.le_of_ble_eq_true rfl) d_Ma_macroLength_90 ?_
                  have g_11 := h_B_a.at_rng (q + 3)
                  refine G_bipush (j := 114) hC (by decide +kernel) d_Ma_macroLength_93 ?_
                  refine G_icmp_ne hC 101 (by omega) (by decide) (by decide) d_Ma_macroLength_95 (fun c_12 => ?_) (fun c_12 => ?_)
                  · refine G_iload hC 0 rfl d_Ma_macroLength_101 ?_
                    refine G_iload_n hC 4 rfl rfl d_Ma_macroLength_103 ?_
                    refine G_icmp_ge hC 127 (by omega) (by omega) (by decide) d_Ma_macroLength_104 (fun c_13 => ?_) (fun c_13 => ?_)
                    · refine G_iconst (i := 0) hC d_Ma_macroLength_127 ?_
                      exact G_iretP hC hQ d_Ma_macroLength_128 (by (repeat' split at hr); all_goals omega)
                    · refine G_aload_n hC 2 rfl rfl d_Ma_macroLength_107 ?_
                      refine G_iload hC 0 rfl d_Ma_macroLength_108 ?_
                      refine G_pV (rest := []) hC hR (c_By_at h_B_a (by omega)) cv_Ma_19 h_B_a.obj (by decide) (by omega) (by omega) rfl rfl (Nat.le_of_ble_eq_true rfl) d_Ma_macroLength_110 ?_
                      have g_14 := h_B_a.at_rng (q + 3)
                      refine G_bipush (j := 125) hC (by decide +kernel) d_Ma_macroLength_113 ?_
                      refine G_icmp_ne hC 127 (by omega) (by decide) (by decide) d_Ma_macroLength_115 (fun c_15 => ?_) (fun c_15 => ?_)
                      · refine G_iconst (i := 0) hC d_Ma_macroLength_127 ?_
                        exact G_iretP hC hQ d_Ma_macroLength_128 (by (repeat' split at hr); all_goals omega)
                      · refine G_iload hC 0 rfl d_Ma_macroLength_118 ?_
                        refine G_iconst (i := 1) hC d_Ma_macroLength_120 ?_
                        refine G_iadd hC d_Ma_macroLength_121 ?_
                        refine G_iload_n hC 3 rfl rfl d_Ma_macroLength_122 ?_
                        refine G_isub hC d_Ma_macroLength_123 ?_
                        refine G_goto hC 128 (by decide) d_Ma_macroLength_124 ?_
                        exact G_iretP hC hQ d_Ma_macroLength_128 (by (repeat' split at hr); all_goals omega)
                  · refine G_iinc (lv' := [(4, vI ((q + 3) + 1)), (3, vI (-1)), (0, .ref a), (1, vI q), (2, vI to)]) hC 0 rfl (by rw [hN]; decide) rfl d_Ma_macroLength_98 ?_
                    refine G_iload hC 0 rfl d_Ma_macroLength_101 ?_
                    refine G_iload_n hC 4 rfl rfl d_Ma_macroLength_103 ?_
                    refine G_icmp_ge hC 127 (by omega) (by omega) (by decide) d_Ma_macroLength_104 (fun c_16 => ?_) (fun c_16 => ?_)
                    · refine G_iconst (i := 0) hC d_Ma_macroLength_127 ?_
                      exact G_iretP hC hQ d_Ma_macroLength_128 (by (repeat' split at hr); all_goals omega)
                    · refine G_aload_n hC 2 rfl rfl d_Ma_macroLength_107 ?_
                      refine G_iload hC 0 rfl d_Ma_macroLength_108 ?_
                      refine G_pV (rest := []) hC hR (c_By_at h_B_a (by omega)) cv_Ma_19 h_B_a.obj (by decide) (by omega) (by omega) rfl rfl (Nat.le_of_ble_eq_true rfl) d_Ma_macroLength_110 ?_
                      have g_17 := h_B_a.at_rng ((q + 3) + 1)
                      refine G_bipush (j := 125) hC (by decide +kernel) d_Ma_macroLength_113 ?_
                      refine G_icmp_ne hC 127 (by omega) (by decide) (by decide) d_Ma_macroLength_115 (fun c_18 => ?_) (fun c_18 => ?_)
                      · refine G_iconst (i := 0) hC d_Ma_macroLength_127 ?_
                        exact G_iretP hC hQ d_Ma_macroLength_128 (by (repeat' split at hr); all_goals omega)
                      · refine G_iload hC 0 rfl d_Ma_macroLength_118 ?_
                        refine G_iconst (i := 1) hC d_Ma_macroLength_120 ?_
                        refine G_iadd hC d_Ma_macroLength_121 ?_
                        refine G_iload_n hC 3 rfl rfl d_Ma_macroLength_122 ?_
                        refine G_isub hC d_Ma_macroLength_123 ?_
                        refine G_goto hC 128 (by decide) d_Ma_macroLength_124 ?_
                        exact G_iretP hC hQ d_Ma_macroLength_128 (by (repeat' split at hr); all_goals omega)
                · have c_10 := b2i_ne0.mp c_10
                  have c_10 := of_decide_eq_true c_10
                  refine G_iinc (lv' := [(4, vI ((q + 3) + 1)), (3, vI (-1)), (0, .ref a), (1, vI q), (2, vI to)]) hC 0 rfl (by rw [hN]; decide) rfl d_Ma_macroLength_84 ?_
                  refine G_aload_n hC 2 rfl rfl d_Ma_macroLength_87 ?_
                  refine G_iload hC 0 rfl d_Ma_macroLength_88 ?_
                  refine G_pV (rest := []) hC hR (c_By_at h_B_a (by omega)) cv_Ma_19 h_B_a.obj (by decide) (by omega) (by omega) rfl rfl (Nat.le_of_ble_eq_true rfl) d_Ma_macroLength_90 ?_
                  have g_19 := h_B_a.at_rng ((q + 3) + 1)
                  refine G_bipush (j := 114) hC (by decide +kernel) d_Ma_macroLength_93 ?_
                  refine G_icmp_ne hC 101 (by omega) (by decide) (by decide) d_Ma_macroLength_95 (fun c_20 => ?_) (fun c_20 => ?_)
                  · refine G_iload hC 0 rfl d_Ma_macroLength_101 ?_
                    refine G_iload_n hC 4 rfl rfl d_Ma_macroLength_103 ?_
                    refine G_icmp_ge hC 127 (by omega) (by omega) (by decide) d_Ma_macroLength_104 (fun c_21 => ?_) (fun c_21 => ?_)
                    · refine G_iconst (i := 0) hC d_Ma_macroLength_127 ?_
                      exact G_iretP hC hQ d_Ma_macroLength_128 (by (repeat' split at hr); all_goals omega)
                    · refine G_aload_n hC 2 rfl rfl d_Ma_macroLength_107 ?_
                      refine G_iload hC 0 rfl d_Ma_macroLength_108 ?_
                      refine G_pV (rest := []) hC hR (c_By_at h_B_a (by omega)) cv_Ma_19 h_B_a.obj (by decide) (by omega) (by omega) rfl rfl (Nat.le_of_ble_eq_true rfl) d_Ma_macroLength_110 ?_
                      have g_22 := h_B_a.at_rng ((q + 3) + 1)
                      refine G_bipush (j := 125) hC (by decide +kernel) d_Ma_macroLength_113 ?_
                      refine G_icmp_ne hC 127 (by omega) (by decide) (by decide) d_Ma_macroLength_115 (fun c_23 => ?_) (fun c_23 => ?_)
                      · refine G_iconst (i := 0) hC d_Ma_macroLength_127 ?_
                        exact G_iretP hC hQ d_Ma_macroLength_128 (by (repeat' split at hr); all_goals omega)
                      · refine G_iload hC 0 rfl d_Ma_macroLength_118 ?_
                        refine G_iconst (i := 1) hC d_Ma_macroLength_120 ?_
                        refine G_iadd hC d_Ma_macroLength_121 ?_
                        refine G_iload_n hC 3 rfl rfl d_Ma_macroLength_122 ?_
                        refine G_isub hC d_Ma_macroLength_123 ?_
                        refine G_goto hC 128 (by decide) d_Ma_macroLength_124 ?_
                        exact G_iretP hC hQ d_Ma_macroLength_128 (by (repeat' split at hr); all_goals omega)
                  · refine G_iinc (lv' := [(4, vI (((q + 3) + 1) + 1)), (3, vI (-1)), (0, .ref a), (1, vI q), (2, vI to)]) hC 0 rfl (by rw [hN]; decide) rfl d_Ma_macroLength_98 ?_
                    refine G_iload hC 0 rfl d_Ma_macroLength_101 ?_
                    refine G_iload_n hC 4 rfl rfl d_Ma_macroLength_103 ?_
                    refine G_icmp_ge hC 127 (by omega) (by omega) (by decide) d_Ma_macroLength_104 (fun c_24 => ?_) (fun c_24 => ?_)
                    · refine G_iconst (i := 0) hC d_Ma_macroLength_127 ?_
                      exact G_iretP hC hQ d_Ma_macroLength_128 (by (repeat' split at hr); all_goals omega)
                    · refine G_aload_n hC 2 rfl rfl d_Ma_macroLength_107 ?_
                      refine G_iload hC 0 rfl d_Ma_macroLength_108 ?_
                      refine G_pV (rest := []) hC hR (c_By_at h_B_a (by omega)) cv_Ma_19 h_B_a.obj (by decide) (by omega) (by omega) rfl rfl (Nat.le_of_ble_eq_true rfl) d_Ma_macroLength_110 ?_
                      have g_25 := h_B_a.at_rng (((q + 3) + 1) + 1)
                      refine G_bipush (j := 125) hC (by decide +kernel) d_Ma_macroLength_113 ?_
                      refine G_icmp_ne hC 127 (by omega) (by decide) (by decide) d_Ma_macroLength_115 (fun c_26 => ?_) (fun c_26 => ?_)
                      · refine G_iconst (i := 0) hC d_Ma_macroLength_127 ?_
                        exact G_iretP hC hQ d_Ma_macroLength_128 (by (repeat' split at hr); all_goals omega)
                      · refine G_iload hC 0 rfl d_Ma_macroLength_118 ?_
                        refine G_iconst (i := 1) hC d_Ma_macroLength_120 ?_
                        refine G_iadd hC d_Ma_macroLength_121 ?_
                        refine G_iload_n hC 3 rfl rfl d_Ma_macroLength_122 ?_
                        refine G_isub hC d_Ma_macroLength_123 ?_
                        refine G_goto hC 128 (by decide) d_Ma_macroLength_124 ?_
                        exact G_iretP hC hQ d_Ma_macroLength_128 (by (repeat' split at hr); all_goals omega)
              · have c_8 := b2i_eq0.mp c_8
                have c_8 := of_decide_eq_false c_8
                refine G_iconst (i := 0) hC d_Ma_macroLength_65 ?_
                exact G_iretP hC hQ d_Ma_macroLength_66 (by (repeat' split at hr); all_goals omega)
        · refine G_iconst (i := 2) hC d_Ma_macroLength_37 ?_
          exact G_iretP hC hQ d_Ma_macroLength_38 (by (repeat' split at hr); all_goals omega)
  · refine G_aload_n hC 0 rfl rfl d_Ma_macroLength_7 ?_
    refine G_iload_n hC 1 rfl rfl d_Ma_macroLength_8 ?_
    refine G_iconst (i := 1) hC d_Ma_macroLength_9 ?_
    refine G_iadd hC d_Ma_macroLength_10 ?_
    refine G_pV (rest := []) hC hR (c_By_at h_B_a (by omega)) cv_Ma_19 h_B_a.obj (by decide) (by omega) (by omega) rfl rfl (Nat.le_of_ble_eq_true rfl) d_Ma_macroLength_11 ?_
    have g_27 := h_B_a.at_rng (q + 1)
    refine G_goto hC 18 (by decide) d_Ma_macroLength_14 ?_
    refine G_istore_n (lv' := [(3, vI (atS b.2 (q + 1))), (0, .ref a), (1, vI q), (2, vI to)]) hC rfl (by rw [hN]; decide) rfl d_Ma_macroLength_18 ?_
    refine G_iload_n hC 0 rfl rfl d_Ma_macroLength_19 ?_
    refine G_bipush (j := 37) hC (by decide +kernel) d_Ma_macroLength_20 ?_
    refine G_icmp_eq hC 37 (by omega) (by decide) (by decide) d_Ma_macroLength_22 (fun c_28 => ?_) (fun c_28 => ?_)
    · refine G_iconst (i := 2) hC d_Ma_macroLength_37 ?_
      exact G_iretP hC hQ d_Ma_macroLength_38 (by (repeat' split at hr); all_goals omega)
    · refine G_iload_n hC 0 rfl rfl d_Ma_macroLength_25 ?_
      refine G_bipush (j := 95) hC (by decide +kernel) d_Ma_macroLength_26 ?_
      refine G_icmp_eq hC 37 (by omega) (by decide) (by decide) d_Ma_macroLength_28 (fun c_29 => ?_) (fun c_29 => ?_)
      · refine G_iconst (i := 2) hC d_Ma_macroLength_37 ?_
        exact G_iretP hC hQ d_Ma_macroLength_38 (by (repeat' split at hr); all_goals omega)
      · refine G_iload_n hC 0 rfl rfl d_Ma_macroLength_31 ?_
        refine G_bipush (j := 45) hC (by decide +kernel) d_Ma_macroLength_32 ?_
        refine G_icmp_ne hC 39 (by omega) (by decide) (by decide) d_Ma_macroLength_34 (fun c_30 => ?_) (fun c_30 => ?_)
        · refine G_iload_n hC 0 rfl rfl d_Ma_macroLength_39 ?_
          refine G_bipush (j := 123) hC (by decide +kernel) d_Ma_macroLength_40 ?_
          refine G_icmp_ne hC 65 (by omega) (by decide) (by decide) d_Ma_macroLength_42 (fun c_31 => ?_) (fun c_31 => ?_)
          · refine G_iconst (i := 0) hC d_Ma_macroLength_65 ?_
            exact G_iretP hC hQ d_Ma_macroLength_66 (by (repeat' split at hr); all_goals omega)
          · refine G_iload_n hC 2 rfl rfl d_Ma_macroLength_45 ?_
            refine G_iconst (i := 2) hC d_Ma_macroLength_46 ?_
            refine G_iadd hC d_Ma_macroLength_47 ?_
            refine G_iload_n hC 3 rfl rfl d_Ma_macroLength_48 ?_
            refine G_icmp_ge hC 65 (by omega) (by omega) (by decide) d_Ma_macroLength_49 (fun c_32 => ?_) (fun c_32 => ?_)
            · refine G_iconst (i := 0) hC d_Ma_macroLength_65 ?_
              exact G_iretP hC hQ d_Ma_macroLength_66 (by (repeat' split at hr); all_goals omega)
            · refine G_aload_n hC 1 rfl rfl d_Ma_macroLength_52 ?_
              refine G_iload_n hC 2 rfl rfl d_Ma_macroLength_53 ?_
              refine G_iconst (i := 2) hC d_Ma_macroLength_54 ?_
              refine G_iadd hC d_Ma_macroLength_55 ?_
              refine G_pV (rest := []) hC hR (c_By_at h_B_a (by omega)) cv_Ma_19 h_B_a.obj (by decide) (by omega) (by omega) rfl rfl (Nat.le_of_ble_eq_true rfl) d_Ma_macroLength_56 ?_
              have g_33 := h_B_a.at_rng (q + 2)
              refine G_pS (rest := []) hC hR (c_Ma_isMacroLetter (by omega)) cs_Ma_29 (by decide) (by omega) (by omega) rfl rfl (Nat.le_of_ble_eq_true rfl) d_Ma_macroLength_59 ?_
              refine G_if_ne hC 67 (by have := b2i_rng (decide (mlP (atS b.2 (q + 2)))); omega) (by decide) d_Ma_macroLength_62 (fun c_34 => ?_) (fun c_34 => ?_)
              · have c_34 := b2i_ne0.mp c_34
                have c_34 := of_decide_eq_true c_34
                refine G_iload_n hC 2 rfl rfl d_Ma_macroLength_67 ?_
                refine G_iconst (i := 3) hC d_Ma_macroLength_68 ?_
                refine G_iadd hC d_Ma_macroLength_69 ?_
                refine G_istore (lv' := [(4, vI (q + 3)), (3, vI (atS b.2 (q + 1))), (0, .ref a), (1, vI q), (2, vI to)]) hC (by rw [hN]; decide) rfl d_Ma_macroLength_70 ?_
                refine G_aload_n hC 2 rfl rfl d_Ma_macroLength_72 ?_
                refine G_iload hC 0 rfl d_Ma_macroLength_73 ?_
                refine G_pV (rest := []) hC hR (c_By_at h_B_a (by omega)) cv_Ma_19 h_B_a.obj (by decide) (by omega) (by omega) rfl rfl (Nat.le_of_ble_eq_true rfl) d_Ma_macroLength_75 ?_
                have g_35 := h_B_a.at_rng (q + 3)
                refine G_pS (rest := []) hC hR (c_Ma_isPartNumber (by omega)) cs_Ma_33 (by decide) (by omega) (by omega) rfl rfl (Nat.le_of_ble_eq_true rfl) d_Ma_macroLength_78 ?_
                refine G_if_eq hC 87 (by have := b2i_rng (decide (pnP (atS b.2 (q + 3)))); omega) (by decide) d_Ma_macroLength_81 (fun c_36 => ?_) (fun c_36 => ?_)
                · have c_36 := b2i_eq0.mp c_36
                  have c_36 := of_decide_eq_false c_36
                  refine G_aload_n hC 2 rfl rfl d_Ma_macroLength_87 ?_
                  refine G_iload hC 0 rfl d_Ma_macroLength_88 ?_
                  refine G_pV (rest := []) hC hR (c_By_at h_B_a (by omega)) cv_Ma_19 h_B_a.obj (by decide) (by omega) (by omega) rfl rfl (Nat.le_of_ble_eq_true rfl) d_Ma_macroLength_90 ?_
                  have g_37 := h_B_a.at_rng (q + 3)
                  refine G_bipush (j := 114) hC (by decide +kernel) d_Ma_macroLength_93 ?_
                  refine G_icmp_ne hC 101 (by omega) (by decide) (by decide) d_Ma_macroLength_95 (fun c_38 => ?_) (fun c_38 => ?_)
                  · refine G_iload hC 0 rfl d_Ma_macroLength_101 ?_
                    refine G_iload_n hC 4 rfl rfl d_Ma_macroLength_103 ?_
                    refine G_icmp_ge hC 127 (by omega) (by omega) (by decide) d_Ma_macroLength_104 (fun c_39 => ?_) (fun c_39 => ?_)
                    · refine G_iconst (i := 0) hC d_Ma_macroLength_127 ?_
                      exact G_iretP hC hQ d_Ma_macroLength_128 (by (repeat' split at hr); all_goals omega)
                    · refine G_aload_n hC 2 rfl rfl d_Ma_macroLength_107 ?_
                      refine G_iload hC 0 rfl d_Ma_macroLength_108 ?_
                      refine G_pV (rest := []) hC hR (c_By_at h_B_a (by omega)) cv_Ma_19 h_B_a.obj (by decide) (by omega) (by omega) rfl rfl (Nat.le_of_ble_eq_true rfl) d_Ma_macroLength_110 ?_
                      have g_40 := h_B_a.at_rng (q + 3)
                      refine G_bipush (j := 125) hC (by decide +kernel) d_Ma_macroLength_113 ?_
                      refine G_icmp_ne hC 127 (by omega) (by decide) (by decide) d_Ma_macroLength_115 (fun c_41 => ?_) (fun c_41 => ?_)
                      · refine G_iconst (i := 0) hC d_Ma_macroLength_127 ?_
                        exact G_iretP hC hQ d_Ma_macroLength_128 (by (repeat' split at hr); all_goals omega)
                      · refine G_iload hC 0 rfl d_Ma_macroLength_118 ?_
                        refine G_iconst (i := 1) hC d_Ma_macroLength_120 ?_
                        refine G_iadd hC d_Ma_macroLength_121 ?_
                        refine G_iload_n hC 3 rfl rfl d_Ma_macroLength_122 ?_
                        refine G_isub hC d_Ma_macroLength_123 ?_
                        refine G_goto hC 128 (by decide) d_Ma_macroLength_124 ?_
                        exact G_iretP hC hQ d_Ma_macroLength_128 (by (repeat' split at hr); all_goals omega)
                  · refine G_iinc (lv' := [(4, vI ((q + 3) + 1)), (3, vI (atS b.2 (q + 1))), (0, .ref a), (1, vI q), (2, vI to)]) hC 0 rfl (by rw [hN]; decide) rfl d_Ma_macroLength_98 ?_
                    refine G_iload hC 0 rfl d_Ma_macroLength_101 ?_
                    refine G_iload_n hC 4 rfl rfl d_Ma_macroLength_103 ?_
                    refine G_icmp_ge hC 127 (by omega) (by omega) (by decide) d_Ma_macroLength_104 (fun c_42 => ?_) (fun c_42 => ?_)
                    · refine G_iconst (i := 0) hC d_Ma_macroLength_127 ?_
                      exact G_iretP hC hQ d_Ma_macroLength_128 (by (repeat' split at hr); all_goals omega)
                    · refine G_aload_n hC 2 rfl rfl d_Ma_macroLength_107 ?_
                      refine G_iload hC 0 rfl d_Ma_macroLength_108 ?_
                      refine G_pV (rest := []) hC hR (c_By_at h_B_a (by omega)) cv_Ma_19 h_B_a.obj (by decide) (by omega) (by omega) rfl rfl (Nat.le_of_ble_eq_true rfl) d_Ma_macroLength_110 ?_
                      have g_43 := h_B_a.at_rng ((q + 3) + 1)
                      refine G_bipush (j := 125) hC (by decide +kernel) d_Ma_macroLength_113 ?_
                      refine G_icmp_ne hC 127 (by omega) (by decide) (by decide) d_Ma_macroLength_115 (fun c_44 => ?_) (fun c_44 => ?_)
                      · refine G_iconst (i := 0) hC d_Ma_macroLength_127 ?_
                        exact G_iretP hC hQ d_Ma_macroLength_128 (by (repeat' split at hr); all_goals omega)
                      · refine G_iload hC 0 rfl d_Ma_macroLength_118 ?_
                        refine G_iconst (i := 1) hC d_Ma_macroLength_120 ?_
                        refine G_iadd hC d_Ma_macroLength_121 ?_
                        refine G_iload_n hC 3 rfl rfl d_Ma_macroLength_122 ?_
                        refine G_isub hC d_Ma_macroLength_123 ?_
                        refine G_goto hC 128 (by decide) d_Ma_macroLength_124 ?_
                        exact G_iretP hC hQ d_Ma_macroLength_128 (by (repeat' split at hr); all_goals omega)
                · have c_36 := b2i_ne0.mp c_36
                  have c_36 := of_decide_eq_true c_36
                  refine G_iinc (lv' := [(4, vI ((q + 3) + 1)), (3, vI (atS b.2 (q + 1))), (0, .ref a), (1, vI q), (2, vI to)]) hC 0 rfl (by rw [hN]; decide) rfl d_Ma_macroLength_84 ?_
                  refine G_aload_n hC 2 rfl rfl d_Ma_macroLength_87 ?_
                  refine G_iload hC 0 rfl d_Ma_macroLength_88 ?_
                  refine G_pV (rest := []) hC hR (c_By_at h_B_a (by omega)) cv_Ma_19 h_B_a.obj (by decide) (by omega) (by omega) rfl rfl (Nat.le_of_ble_eq_true rfl) d_Ma_macroLength_90 ?_
                  have g_45 := h_B_a.at_rng ((q + 3) + 1)
                  refine G_bipush (j := 114) hC (by decide +kernel) d_Ma_macroLength_93 ?_
                  refine G_icmp_ne hC 101 (by omega) (by decide) (by decide) d_Ma_macroLength_95 (fun c_46 => ?_) (fun c_46 => ?_)
                  · refine G_iload hC 0 rfl d_Ma_macroLength_101 ?_
                    refine G_iload_n hC 4 rfl rfl d_Ma_macroLength_103 ?_
                    refine G_icmp_ge hC 127 (by omega) (by omega) (by decide) d_Ma_macroLength_104 (fun c_47 => ?_) (fun c_47 => ?_)
                    · refine G_iconst (i := 0) hC d_Ma_macroLength_127 ?_
                      exact G_iretP hC hQ d_Ma_macroLength_128 (by (repeat' split at hr); all_goals omega)
                    · refine G_aload_n hC 2 rfl rfl d_Ma_macroLength_107 ?_
                      refine G_iload hC 0 rfl d_Ma_macroLength_108 ?_
                      refine G_pV (rest := []) hC hR (c_By_at h_B_a (by omega)) cv_Ma_19 h_B_a.obj (by decide) (by omega) (by omega) rfl rfl (Nat.le_of_ble_eq_true rfl) d_Ma_macroLength_110 ?_
                      have g_48 := h_B_a.at_rng ((q + 3) + 1)
                      refine G_bipush (j := 125) hC (by decide +kernel) d_Ma_macroLength_113 ?_
                      refine G_icmp_ne hC 127 (by omega) (by decide) (by decide) d_Ma_macroLength_115 (fun c_49 => ?_) (fun c_49 => ?_)
                      · refine G_iconst (i := 0) hC d_Ma_macroLength_127 ?_
                        exact G_iretP hC hQ d_Ma_macroLength_128 (by (repeat' split at hr); all_goals omega)
                      · refine G_iload hC 0 rfl d_Ma_macroLength_118 ?_
                        refine G_iconst (i := 1) hC d_Ma_macroLength_120 ?_
                        refine G_iadd hC d_Ma_macroLength_121 ?_
                        refine G_iload_n hC 3 rfl rfl d_Ma_macroLength_122 ?_
                        refine G_isub hC d_Ma_macroLength_123 ?_
                        refine G_goto hC 128 (by decide) d_Ma_macroLength_124 ?_
                        exact G_iretP hC hQ d_Ma_macroLength_128 (by (repeat' split at hr); all_goals omega)
                  · refine G_iinc (lv' := [(4, vI (((q + 3) + 1) + 1)), (3, vI (atS b.2 (q + 1))), (0, .ref a), (1, vI q), (2, vI to)]) hC 0 rfl (by rw [hN]; decide) rfl d_Ma_macroLength_98 ?_
                    refine G_iload hC 0 rfl d_Ma_macroLength_101 ?_
                    refine G_iload_n hC 4 rfl rfl d_Ma_macroLength_103 ?_
                    refine G_icmp_ge hC 127 (by omega) (by omega) (by decide) d_Ma_macroLength_104 (fun c_50 => ?_) (fun c_50 => ?_)
                    · refine G_iconst (i := 0) hC d_Ma_macroLength_127 ?_
                      exact G_iretP hC hQ d_Ma_macroLength_128 (by (repeat' split at hr); all_goals omega)
                    · refine G_aload_n hC 2 rfl rfl d_Ma_macroLength_107 ?_
                      refine G_iload hC 0 rfl d_Ma_macroLength_108 ?_
                      refine G_pV (rest := []) hC hR (c_By_at h_B_a (by omega)) cv_Ma_19 h_B_a.obj (by decide) (by omega) (by omega) rfl rfl (Nat.le_of_ble_eq_true rfl) d_Ma_macroLength_110 ?_
                      have g_51 := h_B_a.at_rng (((q + 3) + 1) + 1)
                      refine G_bipush (j := 125) hC (by decide +kernel) d_Ma_macroLength_113 ?_
                      refine G_icmp_ne hC 127 (by omega) (by decide) (by decide) d_Ma_macroLength_115 (fun c_52 => ?_) (fun c_52 => ?_)
                      · refine G_iconst (i := 0) hC d_Ma_macroLength_127 ?_
                        exact G_iretP hC hQ d_Ma_macroLength_128 (by (repeat' split at hr); all_goals omega)
                      · refine G_iload hC 0 rfl d_Ma_macroLength_118 ?_
                        refine G_iconst (i := 1) hC d_Ma_macroLength_120 ?_
                        refine G_iadd hC d_Ma_macroLength_121 ?_
                        refine G_iload_n hC 3 rfl rfl d_Ma_macroLength_122 ?_
                        refine G_isub hC d_Ma_macroLength_123 ?_
                        refine G_goto hC 128 (by decide) d_Ma_macroLength_124 ?_
                        exact G_iretP hC hQ d_Ma_macroLength_128 (by (repeat' split at hr); all_goals omega)
              · have c_34 := b2i_eq0.mp c_34
                have c_34 := of_decide_eq_false c_34
                refine G_iconst (i := 0) hC d_Ma_macroLength_65 ?_
                exact G_iretP hC hQ d_Ma_macroLength_66 (by (repeat' split at hr); all_goals omega)
        · refine G_iconst (i := 2) hC d_Ma_macroLength_37 ?_
          exact G_iretP hC hQ d_Ma_macroLength_38 (by (repeat' split at hr); all_goals omega)

set_option maxHeartbeats 4000000 in
set_option maxRecDepth 100000 in
theorem c_Ma_isTarget {l : Launch} {D : Dg} {b0 : Nat} {M : Mp} {a : Nat} {fr : Int} {to : Int} {t : Nat} {lim : Int} {b : Bv} {B : Bool} (h_B_a : IsB D M a t lim b) (hfr : -100000 ≤ fr ∧ fr ≤ 100000) (hto : -100000 ≤ to ∧ to ≤ 100000) (hr : targS b.2 fr to = B) : OkP l D b0 3 y_Ma_isTarget b_Ma_isTarget 6 (some .boolean) M [.ref a, vI fr, vI to] (vI (b2i B)) := by
  refine Ok_of rfl (Nat.le_of_ble_eq_true rfl) (fun E hC hQ hl hD hB hN hR => ?_)
  subst hl hD hB
  have hB9 := h_B_a.len
  unfold targS at hr
  show G E M 0 0 [(0, .ref a), (1, vI fr), (2, vI to)] [] 0
  refine G_iload_n hC 1 rfl rfl d_Ma_isTarget_0 ?_
  refine G_istore_n (lv' := [(3, vI fr), (0, .ref a), (1, vI fr), (2, vI to)]) hC rfl (by rw [hN]; decide) rfl d_Ma_isTarget_1 ?_
  have L2 : ∀ (N : Nat) (k : Int), (to - k).toNat < N → (fr ≤ k ∧ (k ≤ to ∨ k = fr)) → ((targL b.2 to k && decide (fr < to)) = B) → G E M 0 0 [(0, .ref a), (1, vI fr), (2, vI to), (3, vI k)] [] 2 := by
    intro N
    induction N with
    | zero => intro k hN2 hk hf; exact absurd hN2 (Nat.not_lt_zero _)
    | succ N ih2 =>
      intro k hN2 hk hf
      refine G_iload_n hC 3 rfl rfl d_Ma_isTarget_2 ?_
      refine G_iload_n hC 2 rfl rfl d_Ma_isTarget_3 ?_
      refine G_icmp_ge hC 65 (by omega) (by omega) (by decide) d_Ma_isTarget_4 (fun c_1 => ?_) (fun c_1 => ?_)
      · refine G_iload_n hC 2 rfl rfl d_Ma_isTarget_65 ?_
        refine G_iload_n hC 1 rfl rfl d_Ma_isTarget_66 ?_
        refine G_icmp_le hC 74 (by omega) (by omega) (by decide) d_Ma_isTarget_67 (fun c_2 => ?_) (fun c_2 => ?_)
        · refine G_iconst (i := 0) hC d_Ma_isTarget_74 ?_
          exact G_zretP hC hQ d_Ma_isTarget_75 (b2i_f (by rw [targL] at hf; (repeat' split at hf); all_goals first | (exfalso; omega) | (rw [← hf]; simp; try omega)))
        · refine G_iconst (i := 1) hC d_Ma_isTarget_70 ?_
          refine G_goto hC 75 (by decide) d_Ma_isTarget_71 ?_
          exact G_zretP hC hQ d_Ma_isTarget_75 (b2i_t (by rw [targL] at hf; (repeat' split at hf); all_goals first | (exfalso; omega) | (rw [← hf]; simp; omega)))
      · refine G_aload_n hC 0 rfl rfl d_Ma_isTarget_7 ?_
        refine G_iload_n hC 3 rfl rfl d_Ma_isTarget_8 ?_
        refine G_pV (rest := []) hC hR (c_By_at h_B_a (by omega)) cv_Ma_19 h_B_a.obj (by decide) (by omega) (by omega) rfl rfl (Nat.le_of_ble_eq_true rfl) d_Ma_isTarget_9 ?_
        have g_3 := h_B_a.at_rng k
        refine G_istore (lv' := [(4, vI (atS b.2 k)), (0, .ref a), (1, vI fr), (2, vI to), (3, vI k)]) hC (by rw [hN]; decide) rfl d_Ma_isTarget_12 ?_
        refine G_iload hC 0 rfl d_Ma_isTarget_14 ?_
        refine G_bipush (j := 33) hC (by decide +kernel) d_Ma_isTarget_16 ?_
        refine G_icmp_lt hC 28 (by omega) (by decide) (by decide) d_Ma_isTarget_18 (fun c_4 => ?_) (fun c_4 => ?_)
        · refine G_iconst (i := 0) hC d_Ma_isTarget_28 ?_
          exact G_zretP hC hQ d_Ma_isTarget_29 (b2i_f (by rw [targL] at hf; (repeat' split at hf); all_goals first | (exfalso; omega) | (rw [← hf]; simp; try omega)))
        · refine G_iload hC 0 rfl d_Ma_isTarget_21 ?_
          refine G_bipush (j := 126) hC (by decide +kernel) d_Ma_isTarget_23 ?_
          refine G_icmp_le hC 30 (by omega) (by decide) (by decide) d_Ma_isTarget_25 (fun c_5 => ?_) (fun c_5 => ?_)
          · refine G_iload hC 0 rfl d_Ma_isTarget_30 ?_
            refine G_bipush (j := 37) hC (by decide +kernel) d_Ma_isTarget_32 ?_
            refine G_icmp_ne hC 59 (by omega) (by decide) (by decide) d_Ma_isTarget_34 (fun c_6 => ?_) (fun c_6 => ?_)
            · refine G_iinc (lv' := [(3, vI (k + 1)), (4, vI (atS b.2 k)), (0, .ref a), (1, vI fr), (2, vI to)]) hC 4 rfl (by rw [hN]; decide) rfl d_Ma_isTarget_59 ?_
              refine G_goto hC 2 (by decide) d_Ma_isTarget_62 ?_
              refine G_lv [2, 3, 4, 0] rfl ?_
              exact ih2 (k + 1) (by omega) (by omega) (by rw [targL] at hf; (repeat' split at hf); all_goals first | exact hf | (exfalso; omega) | omega)
            · refine G_aload_n hC 1 rfl rfl d_Ma_isTarget_37 ?_
              refine G_iload_n hC 4 rfl rfl d_Ma_isTarget_38 ?_
              refine G_iload_n hC 3 rfl rfl d_Ma_isTarget_39 ?_
              refine G_pS (rest := []) hC hR (c_Ma_macroLength h_B_a (by omega) (by omega) rfl) cs_Ma_25 (by decide) (by omega) (by omega) rfl rfl (Nat.le_of_ble_eq_true rfl) d_Ma_isTarget_40 ?_
              have g_7 := mlenS_rng b.2 k to
              refine G_istore (lv' := [(5, vI (mlenS b.2 k to)), (4, vI (atS b.2 k)), (0, .ref a), (1, vI fr), (2, vI to), (3, vI k)]) hC (by rw [hN]; decide) rfl d_Ma_isTarget_43 ?_
              refine G_iload hC 0 rfl d_Ma_isTarget_45 ?_
              refine G_if_ne hC 52 (by omega) (by decide) d_Ma_isTarget_47 (fun c_8 => ?_) (fun c_8 => ?_)
              · refine G_iload_n hC 5 rfl rfl d_Ma_isTarget_52 ?_
                refine G_iload hC 0 rfl d_Ma_isTarget_53 ?_
                refine G_iconst (i := 1) hC d_Ma_isTarget_55 ?_
                refine G_isub hC d_Ma_isTarget_56 ?_
                refine G_iadd hC d_Ma_isTarget_57 ?_
                refine G_istore_n (lv' := [(3, vI (k + ((mlenS b.2 k to) - 1))), (5, vI (mlenS b.2 k to)), (4, vI (atS b.2 k)), (0, .ref a), (1, vI fr), (2, vI to)]) hC rfl (by rw [hN]; decide) rfl d_Ma_isTarget_58 ?_
                refine G_iinc (lv' := [(3, vI ((k + ((mlenS b.2 k to) - 1)) + 1)), (5, vI (mlenS b.2 k to)), (4, vI (atS b.2 k)), (0, .ref a), (1, vI fr), (2, vI to)]) hC 0 rfl (by rw [hN]; decide) rfl d_Ma_isTarget_59 ?_
                refine G_goto hC 2 (by decide) d_Ma_isTarget_62 ?_
                refine G_lv [3, 4, 5, 0] rfl ?_
                exact ih2 ((k + ((mlenS b.2 k to) - 1)) + 1) (by omega) (by omega) (by rw [targL] at hf; (repeat' split at hf); all_goals first | exact hf | (exfalso; omega) | omega)
              · refine G_iconst (i := 0) hC d_Ma_isTarget_50 ?_
                exact G_zretP hC hQ d_Ma_isTarget_51 (b2i_f (by rw [targL] at hf; (repeat' split at hf); all_goals first | (exfalso; omega) | (rw [← hf]; simp; try omega)))
          · refine G_iconst (i := 0) hC d_Ma_isTarget_28 ?_
            exact G_zretP hC hQ d_Ma_isTarget_29 (b2i_f (by rw [targL] at hf; (repeat' split at hf); all_goals first | (exfalso; omega) | (rw [← hf]; simp; try omega)))
  refine G_lv [1, 2, 3, 0] rfl ?_
  exact L2 _ fr (Nat.lt_succ_self _) (by omega) hr
end
section
set_option maxHeartbeats 4000000 in
set_option maxRecDepth 100000 in
theorem c_Arr_copyOf {l : Launch} {D : Dg} {b0 : Nat} {M : Mp} {r : Nat} {n : Int} {t : Nat} {len : Nat} {xs : List Int} (u : Nat) (h_row_r : Row D M r t len xs) (hn : (len : Int) < n ∧ n ≤ 20000) : Ok l D b0 2 y_Arr_copyOf b_Arr_copyOf 3 (some (.array .byte)) M [.ref r, vI n] 1 n.toNat (fun r M' => ∃ q : Nat, r = some (.ref q) ∧ Row D M' q u n.toNat xs ∧ Fr [u] M M') := by
  refine Ok_of rfl (Nat.le_of_ble_eq_true rfl) (fun E hC hQ hl hD hB hN hR => ?_)
  subst hl hD hB
  have hr9 := h_row_r.len
  show G E M 0 0 [(0, .ref r), (1, vI n)] [] 0
  refine G_iload_n hC 1 rfl rfl d_Arr_copyOf_0 ?_
  refine G_aload_n hC 0 rfl rfl d_Arr_copyOf_1 ?_
  refine G_alenR hC h_row_r d_Arr_copyOf_2 ?_
  refine G_icmp_ne hC 14 (by omega) (by omega) (by decide) d_Arr_copyOf_3 (fun c_1 => ?_) (fun c_1 => ?_)
  · refine G_iload_n hC 1 rfl rfl d_Arr_copyOf_14 ?_
    refine G_newBX u hC hR w_acB (by omega) (by omega) (by omega) d_Arr_copyOf_15 (fun q_2 M_3 h_4 h_5 fr_6 => ?_)
    refine G_astore_n (lv' := [(2, .ref q_2), (0, .ref r), (1, vI n)]) hC rfl (by rw [hN]; decide) rfl d_Arr_copyOf_17 ?_
    refine G_aload_n hC 1 rfl rfl d_Arr_copyOf_18 ?_
    refine G_iconst (i := 0) hC d_Arr_copyOf_19 ?_
    refine G_aload_n hC 0 rfl rfl d_Arr_copyOf_20 ?_
    refine G_iconst (i := 0) hC d_Arr_copyOf_21 ?_
    refine G_aload_n hC 1 rfl rfl d_Arr_copyOf_22 ?_
    have h_7 := h_row_r.fr fr_6 (by simp only [List.mem_cons, List.not_mem_nil, or_false, not_or, not_false_eq_true]; try omega)
    refine G_alenR hC h_7 d_Arr_copyOf_23 ?_
    refine G_iload_n hC 2 rfl rfl d_Arr_copyOf_24 ?_
    refine G_minX (c := min (len : Int) n) hC hR lm_Arr_304 (by omega) (by omega) (by omega) (Nat.le_of_ble_eq_true rfl) (Nat.le_of_ble_eq_true rfl) (by omega) (by omega) d_Arr_copyOf_25 ?_
    refine G_copyB0 hC hR lm_Arr_150 w_acN w_acS w_syI h_7 h_5 (by omega) (by omega) (Nat.le_of_ble_eq_true rfl) (Nat.le_of_ble_eq_true rfl) d_Arr_copyOf_28 (fun M_8 h_9 fr_10 => ?_)
    refine G_aload_n hC 0 rfl rfl d_Arr_copyOf_31 ?_
    exact G_areturn hC hQ (Or.inr ⟨_, rfl⟩) (Or.inr ⟨_, rfl⟩) (by omega) (by omega) d_Arr_copyOf_32 ⟨_, rfl, h_9, ((fr_6.up (T := [u]) (by simp)).tr' (T := [u]) fr_10 (fun _ z => z) (by simp))⟩
  · exact (show False from by omega).elim

set_option maxHeartbeats 4000000 in
set_option maxRecDepth 100000 in
theorem c_By_init {l : Launch} {D : Dg} {b0 : Nat} {M : Mp} {a : Nat} {lim : Int} {t : Nat} (h_obj_a : M a = some (t, .inr (cBy, [vI 0, .null, vI 0]))) (hlim : 0 ≤ lim ∧ lim ≤ 20000) : Ok l D b0 2 y_By_init b_By_init 2 none M [.ref a, vI lim] 1 ((min lim 64 : Int).toNat) (fun r M' => r = none ∧ IsB D M' a t lim ((min lim 64 : Int).toNat, []) ∧ Fr [t] M M') := by
  refine Ok_of rfl (Nat.le_of_ble_eq_true rfl) (fun E hC hQ hl hD hB hN hR => ?_)
  subst hl hD hB
  show G E M 0 0 [(0, .ref a), (1, vI lim)] [] 0
  refine G_aload_n hC 0 rfl rfl d_By_init_0 ?_
  refine G_objI hC hR lm_By_1 (Nat.le_of_ble_eq_true rfl) (Nat.le_of_ble_eq_true rfl) d_By_init_1 ?_
  refine G_aload_n hC 0 rfl rfl d_By_init_4 ?_
  refine G_iload_n hC 1 rfl rfl d_By_init_5 ?_
  refine G_putFX (fs' := [vI lim, .null, vI 0]) hC fl_By_7 ft_By ff_By_0 rfl h_obj_a rfl rfl (Nat.le_of_ble_eq_true rfl) rfl d_By_init_6 (fun M_1 h_2 fr_3 => ?_)
  refine G_aload_n hC 0 rfl rfl d_By_init_9 ?_
  refine G_iload_n hC 1 rfl rfl d_By_init_10 ?_
  refine G_bipush (j := 64) hC (by decide +kernel) d_By_init_11 ?_
  refine G_minX (c := min lim 64) hC hR lm_By_13 (by omega) (by omega) (by omega) (Nat.le_of_ble_eq_true rfl) (Nat.le_of_ble_eq_true rfl) (by omega) (by omega) d_By_init_13 ?_
  refine G_newBX (t + 1) hC hR w_acB (by omega) (by omega) (by omega) d_By_init_16 (fun q_4 M_5 h_6 h_7 fr_8 => ?_)
  have h_9 := fr_8.at h_2 (by simp only [List.mem_cons, List.not_mem_nil, or_false, not_or, not_false_eq_true]; try omega)
  refine G_putX (fs' := [vI lim, .ref q_4, vI 0]) hC fl_By_19 ft_By fw_By_1 h_9 rfl rfl (Nat.le_of_ble_eq_true rfl) rfl d_By_init_18 (fun M_10 h_11 fr_12 => ?_)
  refine G_aload_n hC 0 rfl rfl d_By_init_21 ?_
  refine G_iconst (i := 0) hC d_By_init_22 ?_
  refine G_putX (fs' := [vI lim, .ref q_4, vI 0]) hC fl_By_23 ft_By fw_By_2 h_11 rfl rfl (Nat.le_of_ble_eq_true rfl) rfl d_By_init_23 (fun M_13 h_14 fr_15 => ?_)
  have h_16 := h_7.fr fr_12 (by simp only [List.mem_cons, List.not_mem_nil, or_false, not_or, not_false_eq_true]; try omega)
  have h_17 := h_16.fr fr_15 (by simp only [List.mem_cons, List.not_mem_nil, or_false, not_or, not_false_eq_true]; try omega)
  exact G_return hC hQ (by omega) (by omega) d_By_init_26 ⟨rfl, ⟨q_4, h_14, h_17, by show (((min lim 64 : Int).toNat : Nat) : Int) ≤ lim; omega, by omega⟩, ((((fr_3.up (T := [t]) (by simp)).tr' (T := [t]) fr_8 (fun _ z => z) (by simp)).tr' (T := [t]) fr_12 (fun _ z => z) (by simp)).tr' (T := [t]) fr_15 (fun _ z => z) (by simp))⟩

set_option maxHeartbeats 4000000 in
set_option maxRecDepth 100000 in
theorem c_By_cut {l : Launch} {D : Dg} {b0 : Nat} {M : Mp} {a : Nat} {i : Int} {t : Nat} {lim : Int} {b : Bv} (h_B_a : IsB D M a t lim b) (hi : -2147483648 ≤ i ∧ i ≤ 2147483647) : Ok l D b0 1 y_By_cut b_By_cut 2 none M [.ref a, vI i] 0 0 (fun r M' => r = none ∧ IsB D M' a t lim (cutB b i) ∧ Fr [t, t + 1] M M') := by
  refine Ok_of rfl (Nat.le_of_ble_eq_true rfl) (fun E hC hQ hl hD hB hN hR => ?_)
  subst hl hD hB
  have g_6 := h_B_a.len
  obtain ⟨r_1, h_2, h_3, h_4, h_5⟩ := id h_B_a
  show G E M 0 0 [(0, .ref a), (1, vI i)] [] 0
  refine G_iload_n hC 1 rfl rfl d_By_cut_0 ?_
  refine G_if_lt hC 17 (by omega) (by decide) d_By_cut_1 (fun c_7 => ?_) (fun c_7 => ?_)
  · exact G_return hC hQ (by omega) (by omega) d_By_cut_17 ⟨rfl, by unfold cutB; rw [if_neg (by omega)]; exact h_B_a, Fr.rf⟩
  · refine G_iload_n hC 1 rfl rfl d_By_cut_4 ?_
    refine G_aload_n hC 0 rfl rfl d_By_cut_5 ?_
    refine G_get hC fl_By_23 h_2 rfl d_By_cut_6 ?_
    refine G_icmp_ge hC 17 (by omega) (by omega) (by decide) d_By_cut_9 (fun c_8 => ?_) (fun c_8 => ?_)
    · exact G_return hC hQ (by omega) (by omega) d_By_cut_17 ⟨rfl, by unfold cutB; rw [if_neg (by omega)]; exact h_B_a, Fr.rf⟩
    · refine G_aload_n hC 0 rfl rfl d_By_cut_12 ?_
      refine G_iload_n hC 1 rfl rfl d_By_cut_13 ?_
      refine G_putX (fs' := [vI lim, .ref r_1, vI i]) hC fl_By_23 ft_By fw_By_2 h_2 rfl rfl (Nat.le_of_ble_eq_true rfl) rfl d_By_cut_14 (fun M_9 h_10 fr_11 => ?_)
      have h_12 := h_3.fr fr_11 (by simp only [List.mem_cons, List.not_mem_nil, or_false, not_or, not_false_eq_true]; try omega)
      have e9 : (((b.2.take i.toNat).length : Nat) : Int) = i := by rw [List.length_take]; omega
      exact G_return hC hQ (by omega) (by omega) d_By_cut_17 ⟨rfl, by unfold cutB; rw [if_pos (by omega)]; exact ⟨r_1, by rw [e9]; exact h_10, h_12.take _, by omega, by omega⟩, (fr_11.up (T := [t, t + 1]) (by simp))⟩

set_option maxHeartbeats 4000000 in
set_option maxRecDepth 100000 in
theorem c_By_add {l : Launch} {D : Dg} {b0 : Nat} {M : Mp} {a : Nat} {c : Int} {t : Nat} {lim : Int} {b : Bv} (h_B_a : IsB D M a t lim b) (hc : -2147483648 ≤ c ∧ c ≤ 2147483647) : Ok l D b0 3 y_By_add b_By_add 2 none M [.ref a, vI c] (psi lim (addB lim b c) - psi lim b) (psi lim (addB lim b c) - psi lim b) (fun r M' => r = none ∧ IsB D M' a t lim (addB lim b c) ∧ Fr [t, t + 1] M M') := by
  refine Ok_of rfl (Nat.le_of_ble_eq_true rfl) (fun E hC hQ hl hD hB hN hR => ?_)
  subst hl hD hB
  have g_6 := h_B_a.len
  obtain ⟨r_1, h_2, h_3, h_4, h_5⟩ := id h_B_a
  show G E M 0 0 [(0, .ref a), (1, vI c)] [] 0
  refine G_aload_n hC 0 rfl rfl d_By_add_0 ?_
  refine G_get hC fl_By_23 h_2 rfl d_By_add_1 ?_
  refine G_aload_n hC 0 rfl rfl d_By_add_4 ?_
  refine G_get hC fl_By_7 h_2 rfl d_By_add_5 ?_
  refine G_icmp_lt hC 12 (by omega) (by omega) (by decide) d_By_add_8 (fun c_7 => ?_) (fun c_7 => ?_)
  · refine G_aload_n hC 0 rfl rfl d_By_add_12 ?_
    refine G_get hC fl_By_23 h_2 rfl d_By_add_13 ?_
    refine G_aload_n hC 0 rfl rfl d_By_add_16 ?_
    refine G_get hC fl_By_19 h_2 rfl d_By_add_17 ?_
    refine G_alenR hC h_3 d_By_add_20 ?_
    refine G_icmp_lt hC 50 (by omega) (by omega) (by decide) d_By_add_21 (fun c_8 => ?_) (fun c_8 => ?_)
    · refine G_aload_n hC 0 rfl rfl d_By_add_50 ?_
      refine G_get hC fl_By_19 h_2 rfl d_By_add_51 ?_
      refine G_aload_n hC 0 rfl rfl d_By_add_54 ?_
      refine G_get hC fl_By_23 h_2 rfl d_By_add_55 ?_
      refine G_iload_n hC 1 rfl rfl d_By_add_58 ?_
      refine G_i2bR hC (by omega) d_By_add_59 ?_
      have g_9 := sgb_rng c
      refine G_bastR hC h_3 (by omega) (by omega) (by omega) d_By_add_60 (fun M_10 h_11 fr_12 => ?_)
      refine G_aload_n hC 0 rfl rfl d_By_add_61 ?_
      refine G_dup hC rfl d_By_add_62 ?_
      have h_13 := fr_12.at h_2 (by simp only [List.mem_cons, List.not_mem_nil, or_false, not_or, not_false_eq_true]; try omega)
      refine G_get hC fl_By_23 h_13 rfl d_By_add_63 ?_
      refine G_iconst (i := 1) hC d_By_add_66 ?_
      refine G_iadd hC d_By_add_67 ?_
      refine G_putX (fs' := [vI lim, .ref r_1, vI ((b.2.length : Int) + 1)]) hC fl_By_23 ft_By fw_By_2 h_13 rfl rfl (Nat.le_of_ble_eq_true rfl) rfl d_By_add_68 (fun M_14 h_15 fr_16 => ?_)
      have h_17 := h_11.fr fr_16 (by simp only [List.mem_cons, List.not_mem_nil, or_false, not_or, not_false_eq_true]; try omega)
      have e9 : (((b.2 ++ [sgb c]).length : Nat) : Int) = (b.2.length : Int) + 1 := by simp
      exact G_return hC hQ (by omega) (by omega) d_By_add_71 ⟨rfl, by rw [addB_fits (by omega) (by omega)]; exact ⟨r_1, by show _ = some (t, Sum.inr (cBy, [vI lim, .ref r_1, vI (((b.2 ++ [sgb c]).length : Nat) : Int)])); rw [e9]; exact h_15, h_17, by omega, by omega⟩, ((fr_12.up (T := [t, t + 1]) (by simp)).tr' (T := [t, t + 1]) fr_16 (fun _ z => z) (by simp))⟩
    · refine G_aload_n hC 0 rfl rfl d_By_add_24 ?_
      refine G_aload_n hC 0 rfl rfl d_By_add_25 ?_
      refine G_get hC fl_By_19 h_2 rfl d_By_add_26 ?_
      refine G_aload_n hC 0 rfl rfl d_By_add_29 ?_
      refine G_get hC fl_By_7 h_2 rfl d_By_add_30 ?_
      refine G_iconst (i := 2) hC d_By_add_33 ?_
      refine G_aload_n hC 0 rfl rfl d_By_add_34 ?_
      refine G_get hC fl_By_23 h_2 rfl d_By_add_35 ?_
      refine G_imul hC d_By_add_38 ?_
      refine G_iconst (i := 1) hC d_By_add_39 ?_
      refine G_iadd hC d_By_add_40 ?_
      refine G_minX (c := min lim ((2 * (b.2.length : Int)) + 1)) hC hR lm_By_13 (by omega) (by omega) (by omega) (Nat.le_of_ble_eq_true rfl) (Nat.le_of_ble_eq_true rfl) (by omega) (by omega) d_By_add_41 ?_
      have h9 := grow_add (lim := lim) (b := b) c ⟨by omega, by omega⟩ (by omega) (by omega)
      refine G_xS (rest := [.ref a]) hC hR (c_Arr_copyOf (t + 1) h_3 (by omega)) cs_By_26 (by decide) (by omega) (by omega) rfl rfl (Nat.le_of_ble_eq_true rfl) d_By_add_44 (fun r_20 M_18 p_19 => ?_)
      obtain ⟨q_21, rfl, h_22, fr_23⟩ := p_19
      show G E M_18 (0 + (1)) (0 + ((min lim ((2 * (b.2.length : Int)) + 1)).toNat)) [(0, .ref a), (1, vI c)] [.ref q_21, .ref a] 47
      have h_24 := fr_23.at h_2 (by simp only [List.mem_cons, List.not_mem_nil, or_false, not_or, not_false_eq_true]; try omega)
      refine G_putX (fs' := [vI lim, .ref q_21, vI (b.2.length : Int)]) hC fl_By_19 ft_By fw_By_1 h_24 rfl rfl (Nat.le_of_ble_eq_true rfl) rfl d_By_add_47 (fun M_25 h_26 fr_27 => ?_)
      refine G_aload_n hC 0 rfl rfl d_By_add_50 ?_
      refine G_get hC fl_By_19 h_26 rfl d_By_add_51 ?_
      refine G_aload_n hC 0 rfl rfl d_By_add_54 ?_
      refine G_get hC fl_By_23 h_26 rfl d_By_add_55 ?_
      refine G_iload_n hC 1 rfl rfl d_By_add_58 ?_
      refine G_i2bR hC (by omega) d_By_add_59 ?_
      have g_28 := sgb_rng c
      have h_29 := h_22.fr fr_27 (by simp only [List.mem_cons, List.not_mem_nil, or_false, not_or, not_false_eq_true]; try omega)
      refine G_bastR hC h_29 (by omega) (by omega) (by omega) d_By_add_60 (fun M_30 h_31 fr_32 => ?_)
      refine G_aload_n hC 0 rfl rfl d_By_add_61 ?_
      refine G_dup hC rfl d_By_add_62 ?_
      have h_33 := fr_32.at h_26 (by simp only [List.mem_cons, List.not_mem_nil, or_false, not_or, not_false_eq_true]; try omega)
      refine G_get hC fl_By_23 h_33 rfl d_By_add_63 ?_
      refine G_iconst (i := 1) hC d_By_add_66 ?_
      refine G_iadd hC d_By_add_67 ?_
      refine G_putX (fs' := [vI lim, .ref q_21, vI ((b.2.length : Int) + 1)]) hC fl_By_23 ft_By fw_By_2 h_33 rfl rfl (Nat.le_of_ble_eq_true rfl) rfl d_By_add_68 (fun M_34 h_35 fr_36 => ?_)
      have h_37 := h_31.fr fr_36 (by simp only [List.mem_cons, List.not_mem_nil, or_false, not_or, not_false_eq_true]; try omega)
      have e9 : (((b.2 ++ [sgb c]).length : Nat) : Int) = (b.2.length : Int) + 1 := by simp
      exact G_return hC hQ (by omega) (by omega) d_By_add_71 ⟨rfl, by rw [addB_grow (by omega) (by omega)]; exact ⟨q_21, by show _ = some (t, Sum.inr (cBy, [vI lim, .ref q_21, vI (((b.2 ++ [sgb c]).length : Nat) : Int)])); rw [e9]; exact h_35, h_37, by show (((min lim (2 * (b.2.length : Int) + 1)).toNat : Nat) : Int) ≤ lim; omega, by omega⟩, ((((fr_23.up (T := [t, t + 1]) (by simp)).tr' (T := [t, t + 1]) fr_27 (fun _ z => z) (by simp)).tr' (T := [t, t + 1]) fr_32 (fun _ z => z) (by simp)).tr' (T := [t, t + 1]) fr_36 (fun _ z => z) (by simp))⟩
  · exact G_return hC hQ (by omega) (by omega) d_By_add_11 ⟨rfl, by rw [addB_full (by omega)]; exact h_B_a, Fr.rf⟩

set_option maxHeartbeats 4000000 in
set_option maxRecDepth 100000 in
theorem c_By_addFour {l : Launch} {D : Dg} {b0 : Nat} {M : Mp} {a : Nat} {w : Int} {t : Nat} {lim : Int} {b : Bv} (h_B_a : IsB D M a t lim b) (hw : -2147483648 ≤ w ∧ w ≤ 2147483647) : Ok l D b0 4 y_By_addFour b_By_addFour 2 none M [.ref a, vI w] (psi lim (add4B lim b w) - psi lim b) (psi lim (add4B lim b w) - psi lim b) (fun r M' => r = none ∧ IsB D M' a t lim (add4B lim b w) ∧ Fr [t, t + 1] M M') := by
  refine Ok_of rfl (Nat.le_of_ble_eq_true rfl) (fun E hC hQ hl hD hB hN hR => ?_)
  subst hl hD hB
  have hB9 := h_B_a.len
  have h91 := psi_addB (lim := lim) (b := b) (w % 4294967296 / 16777216) ⟨by omega, by omega⟩
  have h92 := psi_addB (w % 4294967296 / 65536) h91.2
  have h93 := psi_addB (w % 4294967296 / 256) h92.2
  have h94 := psi_addB w h93.2
  have h99 : add4B lim b w = addB lim (addB lim (addB lim (addB lim b (w % 4294967296 / 16777216)) (w % 4294967296 / 65536)) (w % 4294967296 / 256)) w := rfl
  rw [h99] at hQ hR
  show G E M 0 0 [(0, .ref a), (1, vI w)] [] 0
  refine G_aload_n hC 0 rfl rfl d_By_addFour_0 ?_
  refine G_iload_n hC 1 rfl rfl d_By_addFour_1 ?_
  refine G_bipush (j := 24) hC (by decide +kernel) d_By_addFour_2 ?_
  refine G_iushr hC (zI_ushr24 _) d_By_addFour_4 ?_
  refine G_xV (rest := []) hC hR (c_By_add h_B_a (by omega)) cv_By_32 h_B_a.obj (by decide) (by omega) (by omega) rfl rfl (Nat.le_of_ble_eq_true rfl) d_By_addFour_5 (fun r_3 M_1 p_2 => ?_)
  obtain ⟨rfl, h_4, fr_5⟩ := p_2
  show G E M_1 (0 + (psi lim (addB lim b (w % 4294967296 / 16777216)) - psi lim b)) (0 + (psi lim (addB lim b (w % 4294967296 / 16777216)) - psi lim b)) [(0, .ref a), (1, vI w)] [] 8
  have g_6 := psi_addB (lim := lim) (b := b) (w % 4294967296 / 16777216) ⟨h_B_a.len.1, h_B_a.len.2.1⟩
  refine G_aload_n hC 0 rfl rfl d_By_addFour_8 ?_
  refine G_iload_n hC 1 rfl rfl d_By_addFour_9 ?_
  refine G_bipush (j := 16) hC (by decide +kernel) d_By_addFour_10 ?_
  refine G_iushr hC (zI_ushr16 _) d_By_addFour_12 ?_
  refine G_xV (rest := []) hC hR (c_By_add h_4 (by omega)) cv_By_32 h_4.obj (by decide) (by omega) (by omega) rfl rfl (Nat.le_of_ble_eq_true rfl) d_By_addFour_13 (fun r_9 M_7 p_8 => ?_)
  obtain ⟨rfl, h_10, fr_11⟩ := p_8
  show G E M_7 (0 + (psi lim (addB lim b (w % 4294967296 / 16777216)) - psi lim b) + (psi lim (addB lim (addB lim b (w % 4294967296 / 16777216)) (w % 4294967296 / 65536)) - psi lim (addB lim b (w % 4294967296 / 16777216)))) (0 + (psi lim (addB lim b (w % 4294967296 / 16777216)) - psi lim b) + (psi lim (addB lim (addB lim b (w % 4294967296 / 16777216)) (w % 4294967296 / 65536)) - psi lim (addB lim b (w % 4294967296 / 16777216)))) [(0, .ref a), (1, vI w)] [] 16
  have g_12 := psi_addB (lim := lim) (b := (addB lim b (w % 4294967296 / 16777216))) (w % 4294967296 / 65536) ⟨h_4.len.1, h_4.len.2.1⟩
  refine G_aload_n hC 0 rfl rfl d_By_addFour_16 ?_
  refine G_iload_n hC 1 rfl rfl d_By_addFour_17 ?_
  refine G_bipush (j := 8) hC (by decide +kernel) d_By_addFour_18 ?_
  refine G_iushr hC (zI_ushr8 _) d_By_addFour_20 ?_
  refine G_xV (rest := []) hC hR (c_By_add h_10 (by omega)) cv_By_32 h_10.obj (by decide) (by omega) (by omega) rfl rfl (Nat.le_of_ble_eq_true rfl) d_By_addFour_21 (fun r_15 M_13 p_14 => ?_)
  obtain ⟨rfl, h_16, fr_17⟩ := p_14
  show G E M_13 (0 + (psi lim (addB lim b (w % 4294967296 / 16777216)) - psi lim b) + (psi lim (addB lim (addB lim b (w % 4294967296 / 16777216)) (w % 4294967296 / 65536)) - psi lim (addB lim b (w % 4294967296 / 16777216))) + (psi lim (addB lim (addB lim (addB lim b (w % 4294967296 / 16777216)) (w % 4294967296 / 65536)) (w % 4294967296 / 256)) - psi lim (addB lim (addB lim b (w % 4294967296 / 16777216)) (w % 4294967296 / 65536)))) (0 + (psi lim (addB lim b (w % 4294967296 / 16777216)) - psi lim b) + (psi lim (addB lim (addB lim b (w % 4294967296 / 16777216)) (w % 4294967296 / 65536)) - psi lim (addB lim b (w % 4294967296 / 16777216))) + (psi lim (addB lim (addB lim (addB lim b (w % 4294967296 / 16777216)) (w % 4294967296 / 65536)) (w % 4294967296 / 256)) - psi lim (addB lim (addB lim b (w % 4294967296 / 16777216)) (w % 4294967296 / 65536)))) [(0, .ref a), (1, vI w)] [] 24
  have g_18 := psi_addB (lim := lim) (b := (addB lim (addB lim b (w % 4294967296 / 16777216)) (w % 4294967296 / 65536))) (w % 4294967296 / 256) ⟨h_10.len.1, h_10.len.2.1⟩
  refine G_aload_n hC 0 rfl rfl d_By_addFour_24 ?_
  refine G_iload_n hC 1 rfl rfl d_By_addFour_25 ?_
  refine G_xV (rest := []) hC hR (c_By_add h_16 (by omega)) cv_By_32 h_16.obj (by decide) (by omega) (by omega) rfl rfl (Nat.le_of_ble_eq_true rfl) d_By_addFour_26 (fun r_21 M_19 p_20 => ?_)
  obtain ⟨rfl, h_22, fr_23⟩ := p_20
  show G E M_19 (0 + (psi lim (addB lim b (w % 4294967296 / 16777216)) - psi lim b) + (psi lim (addB lim (addB lim b (w % 4294967296 / 16777216)) (w % 4294967296 / 65536)) - psi lim (addB lim b (w % 4294967296 / 16777216))) + (psi lim (addB lim (addB lim (addB lim b (w % 4294967296 / 16777216)) (w % 4294967296 / 65536)) (w % 4294967296 / 256)) - psi lim (addB lim (addB lim b (w % 4294967296 / 16777216)) (w % 4294967296 / 65536))) + (psi lim (addB lim (addB lim (addB lim (addB lim b (w % 4294967296 / 16777216)) (w % 4294967296 / 65536)) (w % 4294967296 / 256)) w) - psi lim (addB lim (addB lim (addB lim b (w % 4294967296 / 16777216)) (w % 4294967296 / 65536)) (w % 4294967296 / 256)))) (0 + (psi lim (addB lim b (w % 4294967296 / 16777216)) - psi lim b) + (psi lim (addB lim (addB lim b (w % 4294967296 / 16777216)) (w % 4294967296 / 65536)) - psi lim (addB lim b (w % 4294967296 / 16777216))) + (psi lim (addB lim (addB lim (addB lim b (w % 4294967296 / 16777216)) (w % 4294967296 / 65536)) (w % 4294967296 / 256)) - psi lim (addB lim (addB lim b (w % 4294967296 / 16777216)) (w % 4294967296 / 65536))) + (psi lim (addB lim (addB lim (addB lim (addB lim b (w % 4294967296 / 16777216)) (w % 4294967296 / 65536)) (w % 4294967296 / 256)) w) - psi lim (addB lim (addB lim (addB lim b (w % 4294967296 / 16777216)) (w % 4294967296 / 65536)) (w % 4294967296 / 256)))) [(0, .ref a), (1, vI w)] [] 29
  have g_24 := psi_addB (lim := lim) (b := (addB lim (addB lim (addB lim b (w % 4294967296 / 16777216)) (w % 4294967296 / 65536)) (w % 4294967296 / 256))) w ⟨h_16.len.1, h_16.len.2.1⟩
  exact G_return hC hQ (by omega) (by omega) d_By_addFour_29 ⟨rfl, h_22, ((((fr_5.up (T := [t, t + 1]) (by simp)).tr' (T := [t, t + 1]) fr_11 (fun _ z => z) (by simp)).tr' (T := [t, t + 1]) fr_17 (fun _ z => z) (by simp)).tr' (T := [t, t + 1]) fr_23 (fun _ z => z) (by simp))⟩

set_option maxHeartbeats 4000000 in
set_option maxRecDepth 100000 in
theorem c_By_addPart {l : Launch} {D : Dg} {b0 : Nat} {M : Mp} {a : Nat} {o : Nat} {fr : Int} {to : Int} {t : Nat} {lim : Int} {b : Bv} {t2 : Nat} {lim2 : Int} {b2 : Bv} (h_B_a : IsB D M a t lim b) (h_B_o : IsB D M o t2 lim2 b2) (hfr : -100000 ≤ fr ∧ fr ≤ 100000) (hto : -100000 ≤ to ∧ to ≤ 100000) (htt : t2 ≠ t ∧ t2 ≠ t + 1 ∧ t2 + 1 ≠ t ∧ t2 + 1 ≠ t + 1) : Ok l D b0 3 y_By_addPart b_By_addPart 5 none M [.ref a, .ref o, vI fr, vI to] (psi lim (addPB lim b b2.2 fr to) - psi lim b) (psi lim (addPB lim b b2.2 fr to) - psi lim b) (fun r M' => r = none ∧ IsB D M' a t lim (addPB lim b b2.2 fr to) ∧ Fr [t, t + 1] M M') := by
  refine Ok_of rfl (Nat.le_of_ble_eq_true rfl) (fun E hC hQ hl hD hB hN hR => ?_)
  subst hl hD hB
  have g_6 := h_B_a.len
  obtain ⟨r_1, h_2, h_3, h_4, h_5⟩ := id h_B_a
  have g_12 := h_B_o.len
  obtain ⟨r_7, h_8, h_9, h_10, h_11⟩ := id h_B_o
  show G E M 0 0 [(0, .ref a), (1, .ref o), (2, vI fr), (3, vI to)] [] 0
  refine G_iload_n hC 2 rfl rfl d_By_addPart_0 ?_
  refine G_if_lt hC 17 (by omega) (by decide) d_By_addPart_1 (fun c_13 => ?_) (fun c_13 => ?_)
  · exact G_return hC hQ (by omega) (by omega) d_By_addPart_17 ⟨rfl, by rw [addPB_none (by omega)]; exact h_B_a, Fr.rf⟩
  · refine G_iload_n hC 2 rfl rfl d_By_addPart_4 ?_
    refine G_iload_n hC 3 rfl rfl d_By_addPart_5 ?_
    refine G_icmp_ge hC 17 (by omega) (by omega) (by decide) d_By_addPart_6 (fun c_14 => ?_) (fun c_14 => ?_)
    · exact G_return hC hQ (by omega) (by omega) d_By_addPart_17 ⟨rfl, by rw [addPB_none (by omega)]; exact h_B_a, Fr.rf⟩
    · refine G_iload_n hC 3 rfl rfl d_By_addPart_9 ?_
      refine G_aload_n hC 1 rfl rfl d_By_addPart_10 ?_
      refine G_get hC fl_By_23 h_8 rfl d_By_addPart_11 ?_
      refine G_icmp_le hC 18 (by omega) (by omega) (by decide) d_By_addPart_14 (fun c_15 => ?_) (fun c_15 => ?_)
      · refine G_iload_n hC 3 rfl rfl d_By_addPart_18 ?_
        refine G_iload_n hC 2 rfl rfl d_By_addPart_19 ?_
        refine G_isub hC d_By_addPart_20 ?_
        refine G_aload_n hC 0 rfl rfl d_By_addPart_21 ?_
        refine G_get hC fl_By_7 h_2 rfl d_By_addPart_22 ?_
        refine G_aload_n hC 0 rfl rfl d_By_addPart_25 ?_
        refine G_get hC fl_By_23 h_2 rfl d_By_addPart_26 ?_
        refine G_isub hC d_By_addPart_29 ?_
        refine G_minX (c := min (to - fr) (lim - (b.2.length : Int))) hC hR lm_By_13 (by omega) (by omega) (by omega) (Nat.le_of_ble_eq_true rfl) (Nat.le_of_ble_eq_true rfl) (by omega) (by omega) d_By_addPart_30 ?_
        refine G_istore (lv' := [(4, vI (min (to - fr) (lim - (b.2.length : Int)))), (0, .ref a), (1, .ref o), (2, vI fr), (3, vI to)]) hC (by rw [hN]; decide) rfl d_By_addPart_33 ?_
        refine G_aload_n hC 1 rfl rfl d_By_addPart_35 ?_
        refine G_get hC fl_By_23 h_2 rfl d_By_addPart_36 ?_
        refine G_iload hC 0 rfl d_By_addPart_39 ?_
        refine G_iadd hC d_By_addPart_41 ?_
        refine G_aload_n hC 1 rfl rfl d_By_addPart_42 ?_
        refine G_get hC fl_By_19 h_2 rfl d_By_addPart_43 ?_
        refine G_alenR hC h_3 d_By_addPart_46 ?_
        refine G_icmp_le hC 77 (by omega) (by omega) (by decide) d_By_addPart_47 (fun c_16 => ?_) (fun c_16 => ?_)
        · refine G_aload_n hC 2 rfl rfl d_By_addPart_77 ?_
          refine G_get hC fl_By_19 h_8 rfl d_By_addPart_78 ?_
          refine G_iload_n hC 3 rfl rfl d_By_addPart_81 ?_
          refine G_aload_n hC 1 rfl rfl d_By_addPart_82 ?_
          refine G_get hC fl_By_19 h_2 rfl d_By_addPart_83 ?_
          refine G_aload_n hC 1 rfl rfl d_By_addPart_86 ?_
          refine G_get hC fl_By_23 h_2 rfl d_By_addPart_87 ?_
          refine G_iload hC 0 rfl d_By_addPart_90 ?_
          refine G_copyBA hC hR lm_By_36 w_acN w_acS w_syI h_9 h_3 (by omega) (by omega) (by omega) (Nat.le_of_ble_eq_true rfl) (Nat.le_of_ble_eq_true rfl) d_By_addPart_92 (fun M_17 h_18 fr_19 => ?_)
          refine G_aload_n hC 1 rfl rfl d_By_addPart_95 ?_
          refine G_dup hC rfl d_By_addPart_96 ?_
          have h_20 := fr_19.at h_2 (by simp only [List.mem_cons, List.not_mem_nil, or_false, not_or, not_false_eq_true]; try omega)
          refine G_get hC fl_By_23 h_20 rfl d_By_addPart_97 ?_
          refine G_iload hC 0 rfl d_By_addPart_100 ?_
          refine G_iadd hC d_By_addPart_102 ?_
          refine G_putX (fs' := [vI lim, .ref r_1, vI ((b.2.length : Int) + (min (to - fr) (lim - (b.2.length : Int))))]) hC fl_By_23 ft_By fw_By_2 h_20 rfl rfl (Nat.le_of_ble_eq_true rfl) rfl d_By_addPart_103 (fun M_21 h_22 fr_23 => ?_)
          have h_24 := h_18.fr fr_23 (by simp only [List.mem_cons, List.not_mem_nil, or_false, not_or, not_false_eq_true]; try omega)
          have e9 : (((b.2 ++ (b2.2.drop fr.toNat).take (min (to - fr) (lim - (b.2.length : Int))).toNat).length : Nat) : Int) = (b.2.length : Int) + min (to - fr) (lim - (b.2.length : Int)) := by rw [List.length_append, List.length_take, List.length_drop]; omega
          exact G_return hC hQ (by omega) (by omega) d_By_addPart_106 ⟨rfl, by rw [addPB_fits (by omega) (by omega)]; exact ⟨r_1, by show _ = some (t, Sum.inr (cBy, [vI lim, .ref r_1, vI (((b.2 ++ (b2.2.drop fr.toNat).take (min (to - fr) (lim - (b.2.length : Int))).toNat).length : Nat) : Int)])); rw [e9]; exact h_22, h_24, by omega, by omega⟩, ((fr_19.up (T := [t, t + 1]) (by simp)).tr' (T := [t, t + 1]) fr_23 (fun _ z => z) (by simp))⟩
        · refine G_aload_n hC 1 rfl rfl d_By_addPart_50 ?_
          refine G_aload_n hC 1 rfl rfl d_By_addPart_51 ?_
          refine G_get hC fl_By_19 h_2 rfl d_By_addPart_52 ?_
          refine G_aload_n hC 1 rfl rfl d_By_addPart_55 ?_
          refine G_get hC fl_By_7 h_2 rfl d_By_addPart_56 ?_
          refine G_iconst (i := 2) hC d_By_addPart_59 ?_
          refine G_aload_n hC 1 rfl rfl d_By_addPart_60 ?_
          refine G_get hC fl_By_23 h_2 rfl d_By_addPart_61 ?_
          refine G_iload hC 0 rfl d_By_addPart_64 ?_
          refine G_iadd hC d_By_addPart_66 ?_
          refine G_imul hC d_By_addPart_67 ?_
          refine G_minX (c := min lim (2 * ((b.2.length : Int) + (min (to - fr) (lim - (b.2.length : Int)))))) hC hR lm_By_13 (by omega) (by omega) (by omega) (Nat.le_of_ble_eq_true rfl) (Nat.le_of_ble_eq_true rfl) (by omega) (by omega) d_By_addPart_68 ?_
          have h9 := grow_part (lim := lim) (b := b) b2.2 fr to ⟨by omega, by omega⟩ (by omega) (by omega)
          refine G_xS (rest := [.ref a]) hC hR (c_Arr_copyOf (t + 1) h_3 (by omega)) cs_By_26 (by decide) (by omega) (by omega) rfl rfl (Nat.le_of_ble_eq_true rfl) d_By_addPart_71 (fun r_27 M_25 p_26 => ?_)
          obtain ⟨q_28, rfl, h_29, fr_30⟩ := p_26
          show G E M_25 (0 + (1)) (0 + ((min lim (2 * ((b.2.length : Int) + (min (to - fr) (lim - (b.2.length : Int)))))).toNat)) [(4, vI (min (to - fr) (lim - (b.2.length : Int)))), (0, .ref a), (1, .ref o), (2, vI fr), (3, vI to)] [.ref q_28, .ref a] 74
          have h_31 := fr_30.at h_2 (by simp only [List.mem_cons, List.not_mem_nil, or_false, not_or, not_false_eq_true]; try omega)
          refine G_putX (fs' := [vI lim, .ref q_28, vI (b.2.length : Int)]) hC fl_By_19 ft_By fw_By_1 h_31 rfl rfl (Nat.le_of_ble_eq_true rfl) rfl d_By_addPart_74 (fun M_32 h_33 fr_34 => ?_)
          refine G_aload_n hC 2 rfl rfl d_By_addPart_77 ?_
          have h_35 := fr_30.at h_8 (by simp only [List.mem_cons, List.not_mem_nil, or_false, not_or, not_false_eq_true]; try omega)
          have h_36 := fr_34.at h_35 (by simp only [List.mem_cons, List.not_mem_nil, or_false, not_or, not_false_eq_true]; try omega)
          refine G_get hC fl_By_19 h_36 rfl d_By_addPart_78 ?_
          refine G_iload_n hC 3 rfl rfl d_By_addPart_81 ?_
          refine G_aload_n hC 1 rfl rfl d_By_addPart_82 ?_
          refine G_get hC fl_By_19 h_33 rfl d_By_addPart_83 ?_
          refine G_aload_n hC 1 rfl rfl d_By_addPart_86 ?_
          refine G_get hC fl_By_23 h_33 rfl d_By_addPart_87 ?_
          refine G_iload hC 0 rfl d_By_addPart_90 ?_
          have h_37 := h_9.fr fr_30 (by simp only [List.mem_cons, List.not_mem_nil, or_false, not_or, not_false_eq_true]; try omega)
          have h_38 := h_37.fr fr_34 (by simp only [List.mem_cons, List.not_mem_nil, or_false, not_or, not_false_eq_true]; try omega)
          have h_39 := h_29.fr fr_34 (by simp only [List.mem_cons, List.not_mem_nil, or_false, not_or, not_false_eq_true]; try omega)
          refine G_copyBA hC hR lm_By_36 w_acN w_acS w_syI h_38 h_39 (by omega) (by omega) (by omega) (Nat.le_of_ble_eq_true rfl) (Nat.le_of_ble_eq_true rfl) d_By_addPart_92 (fun M_40 h_41 fr_42 => ?_)
          refine G_aload_n hC 1 rfl rfl d_By_addPart_95 ?_
          refine G_dup hC rfl d_By_addPart_96 ?_
          have h_43 := fr_42.at h_33 (by simp only [List.mem_cons, List.not_mem_nil, or_false, not_or, not_false_eq_true]; try omega)
          refine G_get hC fl_By_23 h_43 rfl d_By_addPart_97 ?_
          refine G_iload hC 0 rfl d_By_addPart_100 ?_
          refine G_iadd hC d_By_addPart_102 ?_
          refine G_putX (fs' := [vI lim, .ref q_28, vI ((b.2.length : Int) + (min (to - fr) (lim - (b.2.length : Int))))]) hC fl_By_23 ft_By fw_By_2 h_43 rfl rfl (Nat.le_of_ble_eq_true rfl) rfl d_By_addPart_103 (fun M_44 h_45 fr_46 => ?_)
          have h_47 := h_41.fr fr_46 (by simp only [List.mem_cons, List.not_mem_nil, or_false, not_or, not_false_eq_true]; try omega)
          have e9 : (((b.2 ++ (b2.2.drop fr.toNat).take (min (to - fr) (lim - (b.2.length : Int))).toNat).length : Nat) : Int) = (b.2.length : Int) + min (to - fr) (lim - (b.2.length : Int)) := by rw [List.length_append, List.length_take, List.length_drop]; omega
          exact G_return hC hQ (by omega) (by omega) d_By_addPart_106 ⟨rfl, by rw [addPB_grow (by omega) (by omega)]; exact ⟨q_28, by show _ = some (t, Sum.inr (cBy, [vI lim, .ref q_28, vI (((b.2 ++ (b2.2.drop fr.toNat).take (min (to - fr) (lim - (b.2.length : Int))).toNat).length : Nat) : Int)])); rw [e9]; exact h_45, h_47, by show (((min lim (2 * ((b.2.length : Int) + min (to - fr) (lim - (b.2.length : Int))))).toNat : Nat) : Int) ≤ lim; omega, by omega⟩, ((((fr_30.up (T := [t, t + 1]) (by simp)).tr' (T := [t, t + 1]) fr_34 (fun _ z => z) (by simp)).tr' (T := [t, t + 1]) fr_42 (fun _ z => z) (by simp)).tr' (T := [t, t + 1]) fr_46 (fun _ z => z) (by simp))⟩
      · exact G_return hC hQ (by omega) (by omega) d_By_addPart_17 ⟨rfl, by rw [addPB_none (by omega)]; exact h_B_a, Fr.rf⟩

set_option maxHeartbeats 4000000 in
set_option maxRecDepth 100000 in
theorem c_By_same {l : Launch} {D : Dg} {b0 : Nat} {M : Mp} {a : Nat} {o : Nat} {t : Nat} {lim : Int} {b : Bv} {t2 : Nat} {lim2 : Int} {b2 : Bv} (h_B_a : IsB D M a t lim b) (h_B_o : IsB D M o t2 lim2 b2) : OkP l D b0 1 y_By_same b_By_same 3 (some .boolean) M [.ref a, .ref o] (vI (b2i (decide (b.2 = b2.2)))) := by
  refine Ok_of rfl (Nat.le_of_ble_eq_true rfl) (fun E hC hQ hl hD hB hN hR => ?_)
  subst hl hD hB
  have g_6 := h_B_a.len
  obtain ⟨r_1, h_2, h_3, h_4, h_5⟩ := id h_B_a
  have g_12 := h_B_o.len
  obtain ⟨r_7, h_8, h_9, h_10, h_11⟩ := id h_B_o
  show G E M 0 0 [(0, .ref a), (1, .ref o)] [] 0
  refine G_aload_n hC 0 rfl rfl d_By_same_0 ?_
  refine G_get hC fl_By_23 h_2 rfl d_By_same_1 ?_
  refine G_aload_n hC 1 rfl rfl d_By_same_4 ?_
  refine G_get hC fl_By_23 h_8 rfl d_By_same_5 ?_
  refine G_icmp_eq hC 13 (by omega) (by omega) (by decide) d_By_same_8 (fun c_13 => ?_) (fun c_13 => ?_)
  · refine G_iconst (i := 0) hC d_By_same_13 ?_
    refine G_istore_n (lv' := [(2, vI 0), (0, .ref a), (1, .ref o)]) hC rfl (by rw [hN]; decide) rfl d_By_same_14 ?_
    have L15 : ∀ (N : Nat) (k : Int), ((b.2.length : Int) - k).toNat < N → (0 ≤ k ∧ k ≤ b.2.length) → (∀ j : Nat, (j : Int) < k → b.2.getD j 0 = b2.2.getD j 0) → G E M 0 0 [(0, .ref a), (1, .ref o), (2, vI k)] [] 15 := by
      intro N
      induction N with
      | zero => intro k hN15 hk hv; exact absurd hN15 (Nat.not_lt_zero _)
      | succ N ih15 =>
        intro k hN15 hk hv
        refine G_iload_n hC 2 rfl rfl d_By_same_15 ?_
        refine G_aload_n hC 0 rfl rfl d_By_same_16 ?_
        refine G_get hC fl_By_23 h_2 rfl d_By_same_17 ?_
        refine G_icmp_ge hC 46 (by omega) (by omega) (by decide) d_By_same_20 (fun c_14 => ?_) (fun c_14 => ?_)
        · refine G_iconst (i := 1) hC d_By_same_46 ?_
          exact G_zretP hC hQ d_By_same_47 (b2i_t (decide_eq_true (ext_getD (by omega) (fun j hj => hv j (by omega)))))
        · refine G_aload_n hC 0 rfl rfl d_By_same_23 ?_
          refine G_get hC fl_By_19 h_2 rfl d_By_same_24 ?_
          refine G_iload_n hC 2 rfl rfl d_By_same_27 ?_
          refine G_baldR hC h_3 (by omega) d_By_same_28 ?_
          have g_15 := h_3.rng k
          have g_16 := atS_gx (xs := b.2) (i := k) (by omega)
          refine G_aload_n hC 1 rfl rfl d_By_same_29 ?_
          refine G_get hC fl_By_19 h_8 rfl d_By_same_30 ?_
          refine G_iload_n hC 2 rfl rfl d_By_same_33 ?_
          refine G_baldR hC h_9 (by omega) d_By_same_34 ?_
          have g_17 := h_9.rng k
          have g_18 := atS_gx (xs := b2.2) (i := k) (by omega)
          refine G_icmp_eq hC 40 (by omega) (by omega) (by decide) d_By_same_35 (fun c_19 => ?_) (fun c_19 => ?_)
          · refine G_iinc (lv' := [(2, vI (k + 1)), (0, .ref a), (1, .ref o)]) hC 2 rfl (by rw [hN]; decide) rfl d_By_same_40 ?_
            refine G_goto hC 15 (by decide) d_By_same_43 ?_
            refine G_lv [1, 2, 0] rfl ?_
            exact ih15 (k + 1) (by omega) (by omega) (fun j hj => by
                by_cases hjk : (j : Int) < k
                · exact hv j hjk
                · have hj9 : j = k.toNat := by omega
                  subst hj9
                  exact c_19)
          · refine G_iconst (i := 0) hC d_By_same_38 ?_
            exact G_zretP hC hQ d_By_same_39 (b2i_f (decide_eq_false (fun e => c_19 (by rw [e]))))
    refine G_lv [1, 2, 0] rfl ?_
    exact L15 _ 0 (Nat.lt_succ_self _) (by omega) (fun j hj => absurd hj (by omega))
  · refine G_iconst (i := 0) hC d_By_same_11 ?_
    exact G_zretP hC hQ d_By_same_12 (b2i_f (decide_eq_false (fun e => c_13 (by rw [e]))))
end
section
set_option maxHeartbeats 4000000 in
set_option maxRecDepth 100000 in
theorem c_Str_coder {l : Launch} {D : Dg} {b0 : Nat} {M : Mp} {i : Nat} (hi : i < nTX) : OkP l D b0 1 y_Str_coder b_Str_coder 1 (some .byte) M [.ref (D.2.2.1 i)] (vI 0) := by
  refine Ok_of rfl (Nat.le_of_ble_eq_true rfl) (fun E hC hQ hl hD hB hN hR => ?_)
  subst hl hD hB
  show G E M 0 0 [(0, .ref ((eD E).2.2.1 i))] [] 0
  refine G_getCS hC ls_Str_38 d_Str_coder_0 ?_
  refine G_if_eq hC 13 (by decide) (by decide) d_Str_coder_3 (fun c_1 => ?_) (fun c_1 => ?_)
  · exact absurd c_1 (by decide)
  · refine G_aload_n hC 0 rfl rfl d_Str_coder_6 ?_
    refine G_getTC hC hi ls_Str_15 d_Str_coder_7 ?_
    refine G_goto hC 14 (by decide) d_Str_coder_10 ?_
    exact G_nretP hC hQ d_Str_coder_14 (by decide +kernel) rfl

set_option maxHeartbeats 4000000 in
set_option maxRecDepth 100000 in
theorem c_Str_isLatin1 {l : Launch} {D : Dg} {b0 : Nat} {M : Mp} {i : Nat} (hi : i < nTX) : OkP l D b0 1 y_Str_isLatin1 b_Str_isLatin1 1 (some .boolean) M [.ref (D.2.2.1 i)] (vI (b2i true)) := by
  refine Ok_of rfl (Nat.le_of_ble_eq_true rfl) (fun E hC hQ hl hD hB hN hR => ?_)
  subst hl hD hB
  show G E M 0 0 [(0, .ref ((eD E).2.2.1 i))] [] 0
  refine G_getCS hC ls_Str_38 d_Str_isLatin1_0 ?_
  refine G_if_eq hC 17 (by decide) (by decide) d_Str_isLatin1_3 (fun c_1 => ?_) (fun c_1 => ?_)
  · exact absurd c_1 (by decide)
  · refine G_aload_n hC 0 rfl rfl d_Str_isLatin1_6 ?_
    refine G_getTC hC hi ls_Str_15 d_Str_isLatin1_7 ?_
    refine G_if_ne hC 17 (by decide) (by decide) d_Str_isLatin1_10 (fun c_2 => ?_) (fun c_2 => ?_)
    · exact absurd c_2 (by decide)
    · refine G_iconst (i := 1) hC d_Str_isLatin1_13 ?_
      refine G_goto hC 18 (by decide) d_Str_isLatin1_14 ?_
      exact G_zretP hC hQ d_Str_isLatin1_18 rfl

set_option maxHeartbeats 4000000 in
set_option maxRecDepth 100000 in
theorem c_Str_length {l : Launch} {D : Dg} {b0 : Nat} {M : Mp} {i : Nat} (hi : i < nTX) : OkP l D b0 2 y_Str_length b_Str_length 1 (some .int) M [.ref (D.2.2.1 i)] (vI ((wrd i).length : Int)) := by
  refine Ok_of rfl (Nat.le_of_ble_eq_true rfl) (fun E hC hQ hl hD hB hN hR => ?_)
  subst hl hD hB
  show G E M 0 0 [(0, .ref ((eD E).2.2.1 i))] [] 0
  refine G_aload_n hC 0 rfl rfl d_Str_length_0 ?_
  refine G_getTV hC hi ls_Str_9 d_Str_length_1 ?_
  refine G_tlen hC hi d_Str_length_4 ?_
  refine G_aload_n hC 0 rfl rfl d_Str_length_5 ?_
  refine G_pT (rest := [vI ((wrd i).length : Int)]) hC hR (c_Str_coder hi) ct_Str_335 hi (by decide) (by omega) (by omega) rfl rfl (Nat.le_of_ble_eq_true rfl) d_Str_length_6 ?_
  refine G_ishr0 hC d_Str_length_9 ?_
  exact G_iretP hC hQ d_Str_length_10 rfl

set_option maxHeartbeats 4000000 in
set_option maxRecDepth 100000 in
theorem c_Pre_checkIndex {l : Launch} {D : Dg} {b0 : Nat} {M : Mp} {j : Int} {n : Int} {v : Value} (hj : 0 ≤ j ∧ j < n ∧ n ≤ 100000) (hv : v = .null ∨ ∃ a, v = .ref a) : OkP l D b0 1 y_Pre_checkIndex b_Pre_checkIndex 3 (some .int) M [vI j, vI n, v] (vI j) := by
  rcases hv with rfl | ⟨a9, rfl⟩
  · refine Ok_of rfl (Nat.le_of_ble_eq_true rfl) (fun E hC hQ hl hD hB hN hR => ?_)
    subst hl hD hB
    show G E M 0 0 [(0, vI j), (1, vI n), (2, _)] [] 0
    refine G_iload_n hC 0 rfl rfl d_Pre_checkIndex_0 ?_
    refine G_if_lt hC 9 (by omega) (by decide) d_Pre_checkIndex_1 (fun c_1 => ?_) (fun c_1 => ?_)
    · exact (show False from by omega).elim
    · refine G_iload_n hC 0 rfl rfl d_Pre_checkIndex_4 ?_
      refine G_iload_n hC 1 rfl rfl d_Pre_checkIndex_5 ?_
      refine G_icmp_lt hC 16 (by omega) (by omega) (by decide) d_Pre_checkIndex_6 (fun c_2 => ?_) (fun c_2 => ?_)
      · refine G_iload_n hC 0 rfl rfl d_Pre_checkIndex_16 ?_
        exact G_iretP hC hQ d_Pre_checkIndex_17 rfl
      · exact (show False from by omega).elim
  · refine Ok_of rfl (Nat.le_of_ble_eq_true rfl) (fun E hC hQ hl hD hB hN hR => ?_)
    subst hl hD hB
    show G E M 0 0 [(0, vI j), (1, vI n), (2, _)] [] 0
    refine G_iload_n hC 0 rfl rfl d_Pre_checkIndex_0 ?_
    refine G_if_lt hC 9 (by omega) (by decide) d_Pre_checkIndex_1 (fun c_3 => ?_) (fun c_3 => ?_)
    · exact (show False from by omega).elim
    · refine G_iload_n hC 0 rfl rfl d_Pre_checkIndex_4 ?_
      refine G_iload_n hC 1 rfl rfl d_Pre_checkIndex_5 ?_
      refine G_icmp_lt hC 16 (by omega) (by omega) (by decide) d_Pre_checkIndex_6 (fun c_4 => ?_) (fun c_4 => ?_)
      · refine G_iload_n hC 0 rfl rfl d_Pre_checkIndex_16 ?_
        exact G_iretP hC hQ d_Pre_checkIndex_17 rfl
      · exact (show False from by omega).elim

set_option maxHeartbeats 4000000 in
set_option maxRecDepth 100000 in
theorem c_Str_checkIndex {l : Launch} {D : Dg} {b0 : Nat} {M : Mp} {j : Int} {n : Int} (hj : 0 ≤ j ∧ j < n ∧ n ≤ 100000) : OkV l D b0 2 y_Str_checkIndex b_Str_checkIndex 2 none M [vI j, vI n] := by
  refine Ok_of rfl (Nat.le_of_ble_eq_true rfl) (fun E hC hQ hl hD hB hN hR => ?_)
  subst hl hD hB
  show G E M 0 0 [(0, vI j), (1, vI n)] [] 0
  refine G_iload_n hC 0 rfl rfl d_Str_checkIndex_0 ?_
  refine G_iload_n hC 1 rfl rfl d_Str_checkIndex_1 ?_
  refine G_getSF hC ls_Str_1053 d_Str_checkIndex_2 (fun v_1 hv_2 => ?_)
  refine G_pS (rest := []) hC hR (c_Pre_checkIndex (by omega) hv_2) cs_Str_1059 (by decide) (by omega) (by omega) rfl rfl (Nat.le_of_ble_eq_true rfl) d_Str_checkIndex_5 ?_
  refine G_pop hC rfl d_Str_checkIndex_8 ?_
  exact G_vretP hC hQ d_Str_checkIndex_9

set_option maxHeartbeats 4000000 in
set_option maxRecDepth 100000 in
theorem c_SL_charAt {l : Launch} {D : Dg} {b0 : Nat} {M : Mp} {i : Nat} {j : Int} (hi : i < nTX) (hj : 0 ≤ j ∧ j < (wrd i).length) : OkP l D b0 3 y_SL_charAt b_SL_charAt 2 (some .char) M [.ref (D.2.2.2 i), vI j] (vI ((wrd i).getD j.toNat 0)) := by
  refine Ok_of rfl (Nat.le_of_ble_eq_true rfl) (fun E hC hQ hl hD hB hN hR => ?_)
  subst hl hD hB
  have h9 := wrd_all i hi
  have h8 := h9.2.2 j.toNat (by omega)
  show G E M 0 0 [(0, .ref ((eD E).2.2.2 i)), (1, vI j)] [] 0
  refine G_iload_n hC 1 rfl rfl d_SL_charAt_0 ?_
  refine G_aload_n hC 0 rfl rfl d_SL_charAt_1 ?_
  refine G_tlen hC hi d_SL_charAt_2 ?_
  refine G_vS (rest := []) hC hR (c_Str_checkIndex (by omega)) cs_SL_9 (by decide) (by omega) (by omega) rfl rfl (Nat.le_of_ble_eq_true rfl) d_SL_charAt_3 ?_
  refine G_aload_n hC 0 rfl rfl d_SL_charAt_6 ?_
  refine G_iload_n hC 1 rfl rfl d_SL_charAt_7 ?_
  refine G_tbald hC hi (by omega) d_SL_charAt_8 ?_
  refine G_sipush (j := 255) hC (by decide +kernel) d_SL_charAt_9 ?_
  refine G_iand255 hC (by omega) d_SL_charAt_12 ?_
  refine G_top (b := (wrd i).getD j.toNat 0) (by omega) ?_
  refine G_i2cR hC (by omega) d_SL_charAt_13 ?_
  exact G_nretP hC hQ d_SL_charAt_14 (nar_c (by omega)) rfl

set_option maxHeartbeats 4000000 in
set_option maxRecDepth 100000 in
theorem c_Str_charAt {l : Launch} {D : Dg} {b0 : Nat} {M : Mp} {i : Nat} {j : Int} (hi : i < nTX) (hj : 0 ≤ j ∧ j < (wrd i).length) : OkP l D b0 4 y_Str_charAt b_Str_charAt 2 (some .char) M [.ref (D.2.2.1 i), vI j] (vI ((wrd i).getD j.toNat 0)) := by
  refine Ok_of rfl (Nat.le_of_ble_eq_true rfl) (fun E hC hQ hl hD hB hN hR => ?_)
  subst hl hD hB
  have h9 := wrd_all i hi
  have h8 := h9.2.2 j.toNat (by omega)
  show G E M 0 0 [(0, .ref ((eD E).2.2.1 i)), (1, vI j)] [] 0
  refine G_aload_n hC 0 rfl rfl d_Str_charAt_0 ?_
  refine G_pT (rest := []) hC hR (c_Str_isLatin1 hi) ct_Str_492 hi (by decide) (by omega) (by omega) rfl rfl (Nat.le_of_ble_eq_true rfl) d_Str_charAt_1 ?_
  refine G_if_eq hC 16 (by have := b2i_rng true; omega) (by decide) d_Str_charAt_4 (fun c_1 => ?_) (fun c_1 => ?_)
  · have c_1 := b2i_eq0.mp c_1
    exact absurd c_1 (by decide)
  · have c_1 := b2i_ne0.mp c_1
    refine G_aload_n hC 0 rfl rfl d_Str_charAt_7 ?_
    refine G_getTV hC hi ls_Str_9 d_Str_charAt_8 ?_
    refine G_iload_n hC 1 rfl rfl d_Str_charAt_11 ?_
    refine G_pS (rest := []) hC hR (c_SL_charAt hi (by omega)) cs_Str_495 (by decide) (by omega) (by omega) rfl rfl (Nat.le_of_ble_eq_true rfl) d_Str_charAt_12 ?_
    exact G_nretP hC hQ d_Str_charAt_15 (nar_c (by omega)) rfl

set_option maxHeartbeats 4000000 in
set_option maxRecDepth 100000 in
theorem c_By_has {l : Launch} {D : Dg} {b0 : Nat} {M : Mp} {a : Nat} {i : Nat} {fr : Int} {to : Int} {t : Nat} {lim : Int} {b : Bv} (h_B_a : IsB D M a t lim b) (hi : i < nTX) (hfr : -100000 ≤ fr ∧ fr ≤ 100000) (hto : -100000 ≤ to ∧ to ≤ 100000) : OkP l D b0 5 y_By_has b_By_has 5 (some .boolean) M [.ref a, .ref (D.2.2.1 i), vI fr, vI to] (vI (b2i (hasS b.2 (wrd i) fr to))) := by
  refine Ok_of rfl (Nat.le_of_ble_eq_true rfl) (fun E hC hQ hl hD hB hN hR => ?_)
  subst hl hD hB
  have hB9 := h_B_a.len
  have hw9 := wrd_all i hi
  show G E M 0 0 [(0, .ref a), (1, .ref ((eD E).2.2.1 i)), (2, vI fr), (3, vI to)] [] 0
  refine G_iload_n hC 3 rfl rfl d_By_has_0 ?_
  refine G_iload_n hC 2 rfl rfl d_By_has_1 ?_
  refine G_isub hC d_By_has_2 ?_
  refine G_aload_n hC 1 rfl rfl d_By_has_3 ?_
  refine G_pT (rest := [vI (to - fr)]) hC hR (c_Str_length hi) ct_By_46 hi (by decide) (by omega) (by omega) rfl rfl (Nat.le_of_ble_eq_true rfl) d_By_has_4 ?_
  have g_1 := wrd_all i hi
  refine G_icmp_ge hC 12 (by omega) (by omega) (by decide) d_By_has_7 (fun c_2 => ?_) (fun c_2 => ?_)
  · refine G_iconst (i := 0) hC d_By_has_12 ?_
    refine G_istore (lv' := [(4, vI 0), (0, .ref a), (1, .ref ((eD E).2.2.1 i)), (2, vI fr), (3, vI to)]) hC (by rw [hN]; decide) rfl d_By_has_13 ?_
    have L15 : ∀ (N : Nat) (k : Int), (((wrd i).length : Int) - k).toNat < N → (0 ≤ k ∧ k ≤ ((wrd i).length : Int)) → (∀ j : Nat, (j : Int) < k → atS b.2 (fr + j) = (wrd i).getD j 0) → G E M 0 0 [(0, .ref a), (1, .ref ((eD E).2.2.1 i)), (2, vI fr), (3, vI to), (4, vI k)] [] 15 := by
      intro N
      induction N with
      | zero => intro k hN15 hk hv; exact absurd hN15 (Nat.not_lt_zero _)
      | succ N ih15 =>
        intro k hN15 hk hv
        have hw8 := hw9.2.2 k.toNat
        refine G_iload hC 4 rfl d_By_has_15 ?_
        refine G_aload_n hC 1 rfl rfl d_By_has_17 ?_
        refine G_pT (rest := [vI k]) hC hR (c_Str_length hi) ct_By_46 hi (by decide) (by omega) (by omega) rfl rfl (Nat.le_of_ble_eq_true rfl) d_By_has_18 ?_
        have g_3 := wrd_all i hi
        refine G_icmp_ge hC 49 (by omega) (by omega) (by decide) d_By_has_21 (fun c_4 => ?_) (fun c_4 => ?_)
        · refine G_iconst (i := 1) hC d_By_has_49 ?_
          exact G_zretP hC hQ d_By_has_50 (b2i_t (decide_eq_true ⟨by omega, fun j hj => hv j (by omega)⟩))
        · refine G_aload_n hC 0 rfl rfl d_By_has_24 ?_
          refine G_iload_n hC 2 rfl rfl d_By_has_25 ?_
          refine G_iload hC 4 rfl d_By_has_26 ?_
          refine G_iadd hC d_By_has_28 ?_
          refine G_pV (rest := []) hC hR (c_By_at h_B_a (by omega)) cv_By_42 h_B_a.obj (by decide) (by omega) (by omega) rfl rfl (Nat.le_of_ble_eq_true rfl) d_By_has_29 ?_
          have g_5 := h_B_a.at_rng (fr + k)
          refine G_aload_n hC 1 rfl rfl d_By_has_32 ?_
          refine G_iload hC 4 rfl d_By_has_33 ?_
          refine G_pT (rest := [vI (atS b.2 (fr + k))]) hC hR (c_Str_charAt hi (by omega)) ct_By_52 hi (by decide) (by omega) (by omega) rfl rfl (Nat.le_of_ble_eq_true rfl) d_By_has_35 ?_
          refine G_icmp_eq hC 43 (by omega) (by omega) (by decide) d_By_has_38 (fun c_6 => ?_) (fun c_6 => ?_)
          · refine G_iinc (lv' := [(4, vI (k + 1)), (0, .ref a), (1, .ref ((eD E).2.2.1 i)), (2, vI fr), (3, vI to)]) hC 4 rfl (by rw [hN]; decide) rfl d_By_has_43 ?_
            refine G_goto hC 15 (by decide) d_By_has_46 ?_
            refine G_lv [1, 2, 3, 4, 0] rfl ?_
            exact ih15 (k + 1) (by omega) (by omega) (fun j hj => by
                by_cases hjk : (j : Int) < k
                · exact hv j hjk
                · have hj9 : (j : Int) = k := by omega
                  have hj8 : k.toNat = j := by omega
                  have hj7 := c_6
                  rw [hj8, ← hj9] at hj7
                  exact hj7)
          · refine G_iconst (i := 0) hC d_By_has_41 ?_
            exact G_zretP hC hQ d_By_has_42 (b2i_f (decide_eq_false (fun z => c_6 (by have z9 := z.2 k.toNat (by omega); rw [show ((k.toNat : Nat) : Int) = k by omega] at z9; exact z9))))
    refine G_lv [1, 2, 3, 4, 0] rfl ?_
    exact L15 _ 0 (Nat.lt_succ_self _) (by omega) (fun j hj => absurd hj (by omega))
  · refine G_iconst (i := 0) hC d_By_has_10 ?_
    exact G_zretP hC hQ d_By_has_11 (b2i_f (decide_eq_false (fun z => by have := z.1; omega)))
end
section
theorem fws_Tx : ∀ w ∈ u_ws R_Tx F_Tx 2, w ∈ TB := by decide +kernel
theorem ft_Tx : FT cTx t_Tx := fun C T N h => by
  have h2 : some (R_Tx, F_Tx, 2) = some (C, T, N) := h
  cases h2
  exact ⟨by decide +kernel, by decide +kernel⟩
theorem fl_Tx_9 : FL "SendPolicyModel$Text" 9 cTx 0 := ⟨R_Tx, F_Tx, 2, rfl, fws_Tx, (Nat.le_of_ble_eq_true rfl), (tb_in 681 (by decide +kernel) rfl)⟩
theorem fl_Tx_15 : FL "SendPolicyModel$Text" 15 cTx 1 := ⟨R_Tx, F_Tx, 2, rfl, fws_Tx, (Nat.le_of_ble_eq_true rfl), (tb_in 683 (by decide +kernel) rfl)⟩
theorem fw_Tx_1 : FW cTx 1 := fun C T N h => by
  have h2 : some (R_Tx, F_Tx, 2) = some (C, T, N) := h
  cases h2
  rfl
theorem lm_Tx_19 : Cond.methodLink "SendPolicyModel$Text" 19 ⟨"java/lang/System", "arraycopy", "(Ljava/lang/Object;ILjava/lang/Object;II)V"⟩ ∈ TB := (tb_in 797 (by decide +kernel) rfl)
theorem lm_Tx_3 : Cond.methodLink "SendPolicyModel$Text" 3 ⟨"java/lang/Object", "<init>", "()V"⟩ ∈ TB := (tb_in 680 (by decide +kernel) rfl)
theorem ff_Tx_0 : FF "SendPolicyModel$Text" cTx 0 := fun C T N h => by
  have h2 : some (R_Tx, F_Tx, 2) = some (C, T, N) := h
  cases h2
  exact ⟨rfl, rfl⟩
set_option maxRecDepth 100000 in
theorem mw_Tx_is1 : MW y_Tx_is1 b_Tx_is1 5 (some .boolean) 3 := ⟨tb_in 832 rfl rfl, (tb_in 40 (by decide +kernel) rfl), ⟨by decide +kernel, by decide +kernel, by decide +kernel⟩, (Nat.le_of_ble_eq_true rfl)⟩
theorem cv_Tx_29 : CV "SendPolicyModel$Text" 29 y_Tx_is1 b_Tx_is1 5 (some .boolean) 3 cTx := ⟨mw_Tx_is1, (tb_in 829 (by decide +kernel) rfl), (tb_in 830 (by decide +kernel) rfl), (tb_in 831 (by decide +kernel) rfl), _, rfl, rfl⟩
theorem lc_Tx_33 : Cond.constantLong "SendPolicyModel$Text" 33 (Int64.ofInt 60) ∈ TB := tb_in 781 (by decide +kernel) rfl
set_option maxRecDepth 100000 in
theorem mw_Mo_in : MW y_Mo_in b_Mo_in 6 (some .boolean) 3 := ⟨tb_in 768 rfl rfl, (tb_in 39 (by decide +kernel) rfl), ⟨by decide +kernel, by decide +kernel, by decide +kernel⟩, (Nat.le_of_ble_eq_true rfl)⟩
theorem cn_Tx_35 : CN "SendPolicyModel$Text" 35 y_Mo_in "SendPolicyModel" b_Mo_in 6 (some .boolean) 3 := ⟨mw_Mo_in, (tb_in 767 (by decide +kernel) rfl), by decide⟩
set_option maxRecDepth 100000 in
theorem mw_Mo_isSmall : MW y_Mo_isSmall b_Mo_isSmall 1 (some .boolean) 1 := ⟨tb_in 785 rfl rfl, (tb_in 39 (by decide +kernel) rfl), ⟨by decide +kernel, by decide +kernel, by decide +kernel⟩, (Nat.le_of_ble_eq_true rfl)⟩
theorem cn_Tx_39 : CN "SendPolicyModel$Text" 39 y_Mo_isSmall "SendPolicyModel" b_Mo_isSmall 1 (some .boolean) 1 := ⟨mw_Mo_isSmall, (tb_in 784 (by decide +kernel) rfl), by decide⟩
set_option maxRecDepth 100000 in
theorem mw_Mo_isDigit : MW y_Mo_isDigit b_Mo_isDigit 1 (some .boolean) 1 := ⟨tb_in 788 rfl rfl, (tb_in 39 (by decide +kernel) rfl), ⟨by decide +kernel, by decide +kernel, by decide +kernel⟩, (Nat.le_of_ble_eq_true rfl)⟩
theorem cn_Tx_43 : CN "SendPolicyModel$Text" 43 y_Mo_isDigit "SendPolicyModel" b_Mo_isDigit 1 (some .boolean) 1 := ⟨mw_Mo_isDigit, (tb_in 787 (by decide +kernel) rfl), by decide⟩
set_option maxRecDepth 100000 in
theorem mw_Tx_add2 : MW y_Tx_add2 b_Tx_add2 4 none 3 := ⟨tb_in 796 rfl rfl, (tb_in 40 (by decide +kernel) rfl), ⟨by decide +kernel, by decide +kernel, by decide +kernel⟩, (Nat.le_of_ble_eq_true rfl)⟩
theorem cv_Tx_25 : CV "SendPolicyModel$Text" 25 y_Tx_add2 b_Tx_add2 4 none 3 cTx := ⟨mw_Tx_add2, (tb_in 793 (by decide +kernel) rfl), (tb_in 794 (by decide +kernel) rfl), (tb_in 795 (by decide +kernel) rfl), _, rfl, rfl⟩
/-! DECODE ROWS: printed by wip/gen/names.py -/
theorem d_Tx_add1_0 : decode b_Tx_add1 0 = .ok (.aload_n 0, 1) := by decide +kernel
theorem d_Tx_add1_1 : decode b_Tx_add1 1 = .ok (.getfield 9, 3) := by decide +kernel
theorem d_Tx_add1_4 : decode b_Tx_add1 4 = .ok (.aload_n 0, 1) := by decide +kernel
theorem d_Tx_add1_5 : decode b_Tx_add1 5 = .ok (.getfield 15, 3) := by decide +kernel
theorem d_Tx_add1_8 : decode b_Tx_add1 8 = .ok (.iload_n 1, 1) := by decide +kernel
theorem d_Tx_add1_9 : decode b_Tx_add1 9 = .ok (.i2b, 1) := by decide +kernel
theorem d_Tx_add1_10 : decode b_Tx_add1 10 = .ok (.bastore, 1) := by decide +kernel
theorem d_Tx_add1_11 : decode b_Tx_add1 11 = .ok (.aload_n 0, 1) := by decide +kernel
theorem d_Tx_add1_12 : decode b_Tx_add1 12 = .ok (.dup, 1) := by decide +kernel
theorem d_Tx_add1_13 : decode b_Tx_add1 13 = .ok (.getfield 15, 3) := by decide +kernel
theorem d_Tx_add1_16 : decode b_Tx_add1 16 = .ok (.iconst 1, 1) := by decide +kernel
theorem d_Tx_add1_17 : decode b_Tx_add1 17 = .ok (.iadd, 1) := by decide +kernel
theorem d_Tx_add1_18 : decode b_Tx_add1 18 = .ok (.putfield 15, 3) := by decide +kernel
theorem d_Tx_add1_21 : decode b_Tx_add1 21 = .ok (.return_, 1) := by decide +kernel
theorem d_Tx_add2_0 : decode b_Tx_add2 0 = .ok (.aload_n 1, 1) := by decide +kernel
theorem d_Tx_add2_1 : decode b_Tx_add2 1 = .ok (.iload_n 2, 1) := by decide +kernel
theorem d_Tx_add2_2 : decode b_Tx_add2 2 = .ok (.aload_n 0, 1) := by decide +kernel
theorem d_Tx_add2_3 : decode b_Tx_add2 3 = .ok (.getfield 9, 3) := by decide +kernel
theorem d_Tx_add2_6 : decode b_Tx_add2 6 = .ok (.aload_n 0, 1) := by decide +kernel
theorem d_Tx_add2_7 : decode b_Tx_add2 7 = .ok (.getfield 15, 3) := by decide +kernel
theorem d_Tx_add2_10 : decode b_Tx_add2 10 = .ok (.iload_n 3, 1) := by decide +kernel
theorem d_Tx_add2_11 : decode b_Tx_add2 11 = .ok (.iload_n 2, 1) := by decide +kernel
theorem d_Tx_add2_12 : decode b_Tx_add2 12 = .ok (.isub, 1) := by decide +kernel
theorem d_Tx_add2_13 : decode b_Tx_add2 13 = .ok (.invokestatic 19, 3) := by decide +kernel
theorem d_Tx_add2_16 : decode b_Tx_add2 16 = .ok (.aload_n 0, 1) := by decide +kernel
theorem d_Tx_add2_17 : decode b_Tx_add2 17 = .ok (.dup, 1) := by decide +kernel
theorem d_Tx_add2_18 : decode b_Tx_add2 18 = .ok (.getfield 15, 3) := by decide +kernel
theorem d_Tx_add2_21 : decode b_Tx_add2 21 = .ok (.iload_n 3, 1) := by decide +kernel
theorem d_Tx_add2_22 : decode b_Tx_add2 22 = .ok (.iload_n 2, 1) := by decide +kernel
theorem d_Tx_add2_23 : decode b_Tx_add2 23 = .ok (.isub, 1) := by decide +kernel
theorem d_Tx_add2_24 : decode b_Tx_add2 24 = .ok (.iadd, 1) := by decide +kernel
theorem d_Tx_add2_25 : decode b_Tx_add2 25 = .ok (.putfield 15, 3) := by decide +kernel
theorem d_Tx_add2_28 : decode b_Tx_add2 28 = .ok (.return_, 1) := by decide +kernel
theorem d_Tx_init_0 : decode b_Tx_init 0 = .ok (.aload_n 0, 1) := by decide +kernel
theorem d_Tx_init_1 : decode b_Tx_init 1 = .ok (.invokespecial 3, 3) := by decide +kernel
theorem d_Tx_init_4 : decode b_Tx_init 4 = .ok (.aload_n 0, 1) := by decide +kernel
theorem d_Tx_init_5 : decode b_Tx_init 5 = .ok (.iload_n 1, 1) := by decide +kernel
theorem d_Tx_init_6 : decode b_Tx_init 6 = .ok (.newarray .byte, 2) := by decide +kernel
theorem d_Tx_init_8 : decode b_Tx_init 8 = .ok (.putfield 9, 3) := by decide +kernel
theorem d_Tx_init_11 : decode b_Tx_init 11 = .ok (.return_, 1) := by decide +kernel
theorem d_Tx_is1_0 : decode b_Tx_is1 0 = .ok (.iload_n 3, 1) := by decide +kernel
theorem d_Tx_is1_1 : decode b_Tx_is1 1 = .ok (.iload_n 2, 1) := by decide +kernel
theorem d_Tx_is1_2 : decode b_Tx_is1 2 = .ok (.isub, 1) := by decide +kernel
theorem d_Tx_is1_3 : decode b_Tx_is1 3 = .ok (.aload_n 0, 1) := by decide +kernel
theorem d_Tx_is1_4 : decode b_Tx_is1 4 = .ok (.getfield 15, 3) := by decide +kernel
theorem d_Tx_is1_7 : decode b_Tx_is1 7 = .ok (.if_icmp .eq 5, 3) := by decide +kernel
theorem d_Tx_is1_10 : decode b_Tx_is1 10 = .ok (.iconst 0, 1) := by decide +kernel
theorem d_Tx_is1_11 : decode b_Tx_is1 11 = .ok (.ireturn, 1) := by decide +kernel
theorem d_Tx_is1_12 : decode b_Tx_is1 12 = .ok (.iconst 0, 1) := by decide +kernel
theorem d_Tx_is1_13 : decode b_Tx_is1 13 = .ok (.istore 4, 2) := by decide +kernel
theorem d_Tx_is1_15 : decode b_Tx_is1 15 = .ok (.iload 4, 2) := by decide +kernel
theorem d_Tx_is1_17 : decode b_Tx_is1 17 = .ok (.aload_n 0, 1) := by decide +kernel
theorem d_Tx_is1_18 : decode b_Tx_is1 18 = .ok (.getfield 15, 3) := by decide +kernel
theorem d_Tx_is1_21 : decode b_Tx_is1 21 = .ok (.if_icmp .ge 27, 3) := by decide +kernel
theorem d_Tx_is1_24 : decode b_Tx_is1 24 = .ok (.aload_n 0, 1) := by decide +kernel
theorem d_Tx_is1_25 : decode b_Tx_is1 25 = .ok (.getfield 9, 3) := by decide +kernel
theorem d_Tx_is1_28 : decode b_Tx_is1 28 = .ok (.iload 4, 2) := by decide +kernel
theorem d_Tx_is1_30 : decode b_Tx_is1 30 = .ok (.baload, 1) := by decide +kernel
theorem d_Tx_is1_31 : decode b_Tx_is1 31 = .ok (.aload_n 1, 1) := by decide +kernel
theorem d_Tx_is1_32 : decode b_Tx_is1 32 = .ok (.iload_n 2, 1) := by decide +kernel
theorem d_Tx_is1_33 : decode b_Tx_is1 33 = .ok (.iload 4, 2) := by decide +kernel
theorem d_Tx_is1_35 : decode b_Tx_is1 35 = .ok (.iadd, 1) := by decide +kernel
theorem d_Tx_is1_36 : decode b_Tx_is1 36 = .ok (.baload, 1) := by decide +kernel
theorem d_Tx_is1_37 : decode b_Tx_is1 37 = .ok (.if_icmp .eq 5, 3) := by decide +kernel
theorem d_Tx_is1_40 : decode b_Tx_is1 40 = .ok (.iconst 0, 1) := by decide +kernel
theorem d_Tx_is1_41 : decode b_Tx_is1 41 = .ok (.ireturn, 1) := by decide +kernel
theorem d_Tx_is1_42 : decode b_Tx_is1 42 = .ok (.iinc 4 1, 3) := by decide +kernel
theorem d_Tx_is1_45 : decode b_Tx_is1 45 = .ok (.goto (-30), 3) := by decide +kernel
theorem d_Tx_is1_48 : decode b_Tx_is1 48 = .ok (.iconst 1, 1) := by decide +kernel
theorem d_Tx_is1_49 : decode b_Tx_is1 49 = .ok (.ireturn, 1) := by decide +kernel
theorem d_Tx_is2_0 : decode b_Tx_is2 0 = .ok (.aload_n 0, 1) := by decide +kernel
theorem d_Tx_is2_1 : decode b_Tx_is2 1 = .ok (.aload_n 1, 1) := by decide +kernel
theorem d_Tx_is2_2 : decode b_Tx_is2 2 = .ok (.getfield 9, 3) := by decide +kernel
theorem d_Tx_is2_5 : decode b_Tx_is2 5 = .ok (.iconst 0, 1) := by decide +kernel
theorem d_Tx_is2_6 : decode b_Tx_is2 6 = .ok (.aload_n 1, 1) := by decide +kernel
theorem d_Tx_is2_7 : decode b_Tx_is2 7 = .ok (.getfield 15, 3) := by decide +kernel
theorem d_Tx_is2_10 : decode b_Tx_is2 10 = .ok (.invokevirtual 29, 3) := by decide +kernel
theorem d_Tx_is2_13 : decode b_Tx_is2 13 = .ok (.ireturn, 1) := by decide +kernel
theorem d_Tx_isName_0 : decode b_Tx_isName 0 = .ok (.iload_n 2, 1) := by decide +kernel
theorem d_Tx_isName_1 : decode b_Tx_isName 1 = .ok (.iload_n 1, 1) := by decide +kernel
theorem d_Tx_isName_2 : decode b_Tx_isName 2 = .ok (.isub, 1) := by decide +kernel
theorem d_Tx_isName_3 : decode b_Tx_isName 3 = .ok (.i2l, 1) := by decide +kernel
theorem d_Tx_isName_4 : decode b_Tx_isName 4 = .ok (.lconst 1, 1) := by decide +kernel
theorem d_Tx_isName_5 : decode b_Tx_isName 5 = .ok (.ldc2_w 33, 3) := by decide +kernel
theorem d_Tx_isName_8 : decode b_Tx_isName 8 = .ok (.invokestatic 35, 3) := by decide +kernel
theorem d_Tx_isName_11 : decode b_Tx_isName 11 = .ok (.ifCond .ne 5, 3) := by decide +kernel
theorem d_Tx_isName_14 : decode b_Tx_isName 14 = .ok (.iconst 0, 1) := by decide +kernel
theorem d_Tx_isName_15 : decode b_Tx_isName 15 = .ok (.ireturn, 1) := by decide +kernel
theorem d_Tx_isName_16 : decode b_Tx_isName 16 = .ok (.iconst 0, 1) := by decide +kernel
theorem d_Tx_isName_17 : decode b_Tx_isName 17 = .ok (.istore_n 3, 1) := by decide +kernel
theorem d_Tx_isName_18 : decode b_Tx_isName 18 = .ok (.iload_n 1, 1) := by decide +kernel
theorem d_Tx_isName_19 : decode b_Tx_isName 19 = .ok (.istore 4, 2) := by decide +kernel
theorem d_Tx_isName_21 : decode b_Tx_isName 21 = .ok (.iload 4, 2) := by decide +kernel
theorem d_Tx_isName_23 : decode b_Tx_isName 23 = .ok (.iload_n 2, 1) := by decide +kernel
theorem d_Tx_isName_24 : decode b_Tx_isName 24 = .ok (.if_icmp .ge 74, 3) := by decide +kernel
theorem d_Tx_isName_27 : decode b_Tx_isName 27 = .ok (.aload_n 0, 1) := by decide +kernel
theorem d_Tx_isName_28 : decode b_Tx_isName 28 = .ok (.iload 4, 2) := by decide +kernel
theorem d_Tx_isName_30 : decode b_Tx_isName 30 = .ok (.baload, 1) := by decide +kernel
theorem d_Tx_isName_31 : decode b_Tx_isName 31 = .ok (.istore 5, 2) := by decide +kernel
theorem d_Tx_isName_33 : decode b_Tx_isName 33 = .ok (.iload 5, 2) := by decide +kernel
theorem d_Tx_isName_35 : decode b_Tx_isName 35 = .ok (.bipush 46, 2) := by decide +kernel
theorem d_Tx_isName_37 : decode b_Tx_isName 37 = .ok (.if_icmp .ne 14, 3) := by decide +kernel
theorem d_Tx_isName_40 : decode b_Tx_isName 40 = .ok (.iload_n 3, 1) := by decide +kernel
theorem d_Tx_isName_41 : decode b_Tx_isName 41 = .ok (.ifCond .ne 5, 3) := by decide +kernel
theorem d_Tx_isName_44 : decode b_Tx_isName 44 = .ok (.iconst 0, 1) := by decide +kernel
theorem d_Tx_isName_45 : decode b_Tx_isName 45 = .ok (.ireturn, 1) := by decide +kernel
theorem d_Tx_isName_46 : decode b_Tx_isName 46 = .ok (.iconst 0, 1) := by decide +kernel
theorem d_Tx_isName_47 : decode b_Tx_isName 47 = .ok (.istore_n 3, 1) := by decide +kernel
theorem d_Tx_isName_48 : decode b_Tx_isName 48 = .ok (.goto 44, 3) := by decide +kernel
theorem d_Tx_isName_51 : decode b_Tx_isName 51 = .ok (.iload 5, 2) := by decide +kernel
theorem d_Tx_isName_53 : decode b_Tx_isName 53 = .ok (.invokestatic 39, 3) := by decide +kernel
theorem d_Tx_isName_56 : decode b_Tx_isName 56 = .ok (.ifCond .ne 25, 3) := by decide +kernel
theorem d_Tx_isName_59 : decode b_Tx_isName 59 = .ok (.iload 5, 2) := by decide +kernel
theorem d_Tx_isName_61 : decode b_Tx_isName 61 = .ok (.invokestatic 43, 3) := by decide +kernel
theorem d_Tx_isName_64 : decode b_Tx_isName 64 = .ok (.ifCond .ne 17, 3) := by decide +kernel
theorem d_Tx_isName_67 : decode b_Tx_isName 67 = .ok (.iload 5, 2) := by decide +kernel
theorem d_Tx_isName_69 : decode b_Tx_isName 69 = .ok (.bipush 45, 2) := by decide +kernel
theorem d_Tx_isName_71 : decode b_Tx_isName 71 = .ok (.if_icmp .eq 10, 3) := by decide +kernel
theorem d_Tx_isName_74 : decode b_Tx_isName 74 = .ok (.iload 5, 2) := by decide +kernel
theorem d_Tx_isName_76 : decode b_Tx_isName 76 = .ok (.bipush 95, 2) := by decide +kernel
theorem d_Tx_isName_78 : decode b_Tx_isName 78 = .ok (.if_icmp .ne 9, 3) := by decide +kernel
theorem d_Tx_isName_81 : decode b_Tx_isName 81 = .ok (.iload_n 3, 1) := by decide +kernel
theorem d_Tx_isName_82 : decode b_Tx_isName 82 = .ok (.bipush 20, 2) := by decide +kernel
theorem d_Tx_isName_84 : decode b_Tx_isName 84 = .ok (.if_icmp .ne 5, 3) := by decide +kernel
theorem d_Tx_isName_87 : decode b_Tx_isName 87 = .ok (.iconst 0, 1) := by decide +kernel
theorem d_Tx_isName_88 : decode b_Tx_isName 88 = .ok (.ireturn, 1) := by decide +kernel
theorem d_Tx_isName_89 : decode b_Tx_isName 89 = .ok (.iinc 3 1, 3) := by decide +kernel
theorem d_Tx_isName_92 : decode b_Tx_isName 92 = .ok (.iinc 4 1, 3) := by decide +kernel
theorem d_Tx_isName_95 : decode b_Tx_isName 95 = .ok (.goto (-74), 3) := by decide +kernel
theorem d_Tx_isName_98 : decode b_Tx_isName 98 = .ok (.iload_n 3, 1) := by decide +kernel
theorem d_Tx_isName_99 : decode b_Tx_isName 99 = .ok (.ifCond .le 7, 3) := by decide +kernel
theorem d_Tx_isName_102 : decode b_Tx_isName 102 = .ok (.iconst 1, 1) := by decide +kernel
theorem d_Tx_isName_103 : decode b_Tx_isName 103 = .ok (.goto 4, 3) := by decide +kernel
theorem d_Tx_isName_106 : decode b_Tx_isName 106 = .ok (.iconst 0, 1) := by decide +kernel
theorem d_Tx_isName_107 : decode b_Tx_isName 107 = .ok (.ireturn, 1) := by decide +kernel
theorem d_Tx_set_0 : decode b_Tx_set 0 = .ok (.aload_n 0, 1) := by decide +kernel
theorem d_Tx_set_1 : decode b_Tx_set 1 = .ok (.iconst 0, 1) := by decide +kernel
theorem d_Tx_set_2 : decode b_Tx_set 2 = .ok (.putfield 15, 3) := by decide +kernel
theorem d_Tx_set_5 : decode b_Tx_set 5 = .ok (.aload_n 0, 1) := by decide +kernel
theorem d_Tx_set_6 : decode b_Tx_set 6 = .ok (.aload_n 1, 1) := by decide +kernel
theorem d_Tx_set_7 : decode b_Tx_set 7 = .ok (.iload_n 2, 1) := by decide +kernel
theorem d_Tx_set_8 : decode b_Tx_set 8 = .ok (.iload_n 3, 1) := by decide +kernel
theorem d_Tx_set_9 : decode b_Tx_set 9 = .ok (.invokevirtual 25, 3) := by decide +kernel
theorem d_Tx_set_12 : decode b_Tx_set 12 = .ok (.return_, 1) := by decide +kernel
theorem d_Mo_in_0 : decode b_Mo_in 0 = .ok (.lload_n 0, 1) := by decide +kernel
theorem d_Mo_in_1 : decode b_Mo_in 1 = .ok (.lload_n 2, 1) := by decide +kernel
theorem d_Mo_in_2 : decode b_Mo_in 2 = .ok (.lcmp, 1) := by decide +kernel
theorem d_Mo_in_3 : decode b_Mo_in 3 = .ok (.ifCond .lt 14, 3) := by decide +kernel
theorem d_Mo_in_6 : decode b_Mo_in 6 = .ok (.lload_n 0, 1) := by decide +kernel
theorem d_Mo_in_7 : decode b_Mo_in 7 = .ok (.lload 4, 2) := by decide +kernel
theorem d_Mo_in_9 : decode b_Mo_in 9 = .ok (.lcmp, 1) := by decide +kernel
theorem d_Mo_in_10 : decode b_Mo_in 10 = .ok (.ifCond .gt 7, 3) := by decide +kernel
theorem d_Mo_in_13 : decode b_Mo_in 13 = .ok (.iconst 1, 1) := by decide +kernel
theorem d_Mo_in_14 : decode b_Mo_in 14 = .ok (.goto 4, 3) := by decide +kernel
theorem d_Mo_in_17 : decode b_Mo_in 17 = .ok (.iconst 0, 1) := by decide +kernel
theorem d_Mo_in_18 : decode b_Mo_in 18 = .ok (.ireturn, 1) := by decide +kernel
theorem d_Mo_isSmall_0 : decode b_Mo_isSmall 0 = .ok (.iload_n 0, 1) := by decide +kernel
theorem d_Mo_isSmall_1 : decode b_Mo_isSmall 1 = .ok (.bipush 97, 2) := by decide +kernel
theorem d_Mo_isSmall_3 : decode b_Mo_isSmall 3 = .ok (.if_icmp .lt 13, 3) := by decide +kernel
theorem d_Mo_isSmall_6 : decode b_Mo_isSmall 6 = .ok (.iload_n 0, 1) := by decide +kernel
theorem d_Mo_isSmall_7 : decode b_Mo_isSmall 7 = .ok (.bipush 122, 2) := by decide +kernel
theorem d_Mo_isSmall_9 : decode b_Mo_isSmall 9 = .ok (.if_icmp .gt 7, 3) := by decide +kernel
theorem d_Mo_isSmall_12 : decode b_Mo_isSmall 12 = .ok (.iconst 1, 1) := by decide +kernel
theorem d_Mo_isSmall_13 : decode b_Mo_isSmall 13 = .ok (.goto 4, 3) := by decide +kernel
theorem d_Mo_isSmall_16 : decode b_Mo_isSmall 16 = .ok (.iconst 0, 1) := by decide +kernel
theorem d_Mo_isSmall_17 : decode b_Mo_isSmall 17 = .ok (.ireturn, 1) := by decide +kernel
theorem d_Mo_isDigit_0 : decode b_Mo_isDigit 0 = .ok (.iload_n 0, 1) := by decide +kernel
theorem d_Mo_isDigit_1 : decode b_Mo_isDigit 1 = .ok (.bipush 48, 2) := by decide +kernel
theorem d_Mo_isDigit_3 : decode b_Mo_isDigit 3 = .ok (.if_icmp .lt 13, 3) := by decide +kernel
theorem d_Mo_isDigit_6 : decode b_Mo_isDigit 6 = .ok (.iload_n 0, 1) := by decide +kernel
theorem d_Mo_isDigit_7 : decode b_Mo_isDigit 7 = .ok (.bipush 57, 2) := by decide +kernel
theorem d_Mo_isDigit_9 : decode b_Mo_isDigit 9 = .ok (.if_icmp .gt 7, 3) := by decide +kernel
theorem d_Mo_isDigit_12 : decode b_Mo_isDigit 12 = .ok (.iconst 1, 1) := by decide +kernel
theorem d_Mo_isDigit_13 : decode b_Mo_isDigit 13 = .ok (.goto 4, 3) := by decide +kernel
theorem d_Mo_isDigit_16 : decode b_Mo_isDigit 16 = .ok (.iconst 0, 1) := by decide +kernel
theorem d_Mo_isDigit_17 : decode b_Mo_isDigit 17 = .ok (.ireturn, 1) := by decide +kernel
end
section
set_option maxHeartbeats 4000000 in
set_option maxRecDepth 100000 in
theorem c_Mo_in {l : Launch} {D : Dg} {b0 : Nat} {M : Mp} {v : Int} {lo : Int} {up : Int} (hv : -9000000000 ≤ v ∧ v ≤ 9000000000) (hlo : -9000000000 ≤ lo ∧ lo ≤ 9000000000) (hup : -9000000000 ≤ up ∧ up ≤ 9000000000) : OkP l D b0 1 y_Mo_in b_Mo_in 6 (some .boolean) M [vL v, vL lo, vL up] (vI (b2i (decide (lo ≤ v ∧ v ≤ up)))) := by
  refine Ok_of rfl (Nat.le_of_ble_eq_true rfl) (fun E hC hQ hl hD hB hN hR => ?_)
  subst hl hD hB
  show G E M 0 0 [(0, vL v), (2, vL lo), (4, vL up)] [] 0
  refine G_lload_n hC 0 rfl rfl d_Mo_in_0 ?_
  refine G_lload_n hC 1 rfl rfl d_Mo_in_1 ?_
  refine G_lcmpR hC (by omega) (by omega) d_Mo_in_2 ?_
  refine G_if_lt hC 17 (cmpS_rng _ _) (by decide) d_Mo_in_3 (fun c_1 => ?_) (fun c_1 => ?_)
  · simp only [cmpS_lt0, cmpS_ge0, cmpS_gt0, cmpS_le0] at c_1
    refine G_iconst (i := 0) hC d_Mo_in_17 ?_
    exact G_zretP hC hQ d_Mo_in_18 (b2i_f (decide_eq_false (by omega)))
  · simp only [cmpS_lt0, cmpS_ge0, cmpS_gt0, cmpS_le0] at c_1
    refine G_lload_n hC 0 rfl rfl d_Mo_in_6 ?_
    refine G_lload hC 2 rfl d_Mo_in_7 ?_
    refine G_lcmpR hC (by omega) (by omega) d_Mo_in_9 ?_
    refine G_if_gt hC 17 (cmpS_rng _ _) (by decide) d_Mo_in_10 (fun c_2 => ?_) (fun c_2 => ?_)
    · simp only [cmpS_lt0, cmpS_ge0, cmpS_gt0, cmpS_le0] at c_2
      refine G_iconst (i := 0) hC d_Mo_in_17 ?_
      exact G_zretP hC hQ d_Mo_in_18 (b2i_f (decide_eq_false (by omega)))
    · simp only [cmpS_lt0, cmpS_ge0, cmpS_gt0, cmpS_le0] at c_2
      refine G_iconst (i := 1) hC d_Mo_in_13 ?_
      refine G_goto hC 18 (by decide) d_Mo_in_14 ?_
      exact G_zretP hC hQ d_Mo_in_18 (b2i_t (decide_eq_true (by omega)))

set_option maxHeartbeats 4000000 in
set_option maxRecDepth 100000 in
theorem c_Mo_isSmall {l : Launch} {D : Dg} {b0 : Nat} {M : Mp} {c : Int} (hc : -2147483648 ≤ c ∧ c ≤ 2147483647) : OkP l D b0 1 y_Mo_isSmall b_Mo_isSmall 1 (some .boolean) M [vI c] (vI (b2i (decide (letP c)))) := by
  refine Ok_of rfl (Nat.le_of_ble_eq_true rfl) (fun E hC hQ hl hD hB hN hR => ?_)
  subst hl hD hB
  show G E M 0 0 [(0, vI c)] [] 0
  refine G_iload_n hC 0 rfl rfl d_Mo_isSmall_0 ?_
  refine G_bipush (j := 97) hC (by decide +kernel) d_Mo_isSmall_1 ?_
  refine G_icmp_lt hC 16 (by omega) (by decide) (by decide) d_Mo_isSmall_3 (fun c_1 => ?_) (fun c_1 => ?_)
  · refine G_iconst (i := 0) hC d_Mo_isSmall_16 ?_
    exact G_zretP hC hQ d_Mo_isSmall_17 (b2i_f (decide_eq_false (by omega)))
  · refine G_iload_n hC 0 rfl rfl d_Mo_isSmall_6 ?_
    refine G_bipush (j := 122) hC (by decide +kernel) d_Mo_isSmall_7 ?_
    refine G_icmp_gt hC 16 (by omega) (by decide) (by decide) d_Mo_isSmall_9 (fun c_2 => ?_) (fun c_2 => ?_)
    · refine G_iconst (i := 0) hC d_Mo_isSmall_16 ?_
      exact G_zretP hC hQ d_Mo_isSmall_17 (b2i_f (decide_eq_false (by omega)))
    · refine G_iconst (i := 1) hC d_Mo_isSmall_12 ?_
      refine G_goto hC 17 (by decide) d_Mo_isSmall_13 ?_
      exact G_zretP hC hQ d_Mo_isSmall_17 (b2i_t (decide_eq_true (by omega)))

set_option maxHeartbeats 4000000 in
set_option maxRecDepth 100000 in
theorem c_Mo_isDigit {l : Launch} {D : Dg} {b0 : Nat} {M : Mp} {c : Int} (hc : -2147483648 ≤ c ∧ c ≤ 2147483647) : OkP l D b0 1 y_Mo_isDigit b_Mo_isDigit 1 (some .boolean) M [vI c] (vI (b2i (decide (digP c)))) := by
  refine Ok_of rfl (Nat.le_of_ble_eq_true rfl) (fun E hC hQ hl hD hB hN hR => ?_)
  subst hl hD hB
  show G E M 0 0 [(0, vI c)] [] 0
  refine G_iload_n hC 0 rfl rfl d_Mo_isDigit_0 ?_
  refine G_bipush (j := 48) hC (by decide +kernel) d_Mo_isDigit_1 ?_
  refine G_icmp_lt hC 16 (by omega) (by decide) (by decide) d_Mo_isDigit_3 (fun c_1 => ?_) (fun c_1 => ?_)
  · refine G_iconst (i := 0) hC d_Mo_isDigit_16 ?_
    exact G_zretP hC hQ d_Mo_isDigit_17 (b2i_f (decide_eq_false (by omega)))
  · refine G_iload_n hC 0 rfl rfl d_Mo_isDigit_6 ?_
    refine G_bipush (j := 57) hC (by decide +kernel) d_Mo_isDigit_7 ?_
    refine G_icmp_gt hC 16 (by omega) (by decide) (by decide) d_Mo_isDigit_9 (fun c_2 => ?_) (fun c_2 => ?_)
    · refine G_iconst (i := 0) hC d_Mo_isDigit_16 ?_
      exact G_zretP hC hQ d_Mo_isDigit_17 (b2i_f (decide_eq_false (by omega)))
    · refine G_iconst (i := 1) hC d_Mo_isDigit_12 ?_
      refine G_goto hC 17 (by decide) d_Mo_isDigit_13 ?_
      exact G_zretP hC hQ d_Mo_isDigit_17 (b2i_t (decide_eq_true (by omega)))

set_option maxHeartbeats 4000000 in
set_option maxRecDepth 100000 in
theorem c_Tx_isName {l : Launch} {D : Dg} {b0 : Nat} {M : Mp} {p : Nat} {fr : Int} {to : Int} {t : Nat} {len : Nat} {xs : List Int} {B : Bool} (h_row_p : Row D M p t len xs) (hfr : 0 ≤ fr ∧ fr ≤ 20001) (hto : -1 ≤ to ∧ to ≤ xs.length) (hr : nameS xs fr to = B) : OkP l D b0 2 y_Tx_isName b_Tx_isName 6 (some .boolean) M [.ref p, vI fr, vI to] (vI (b2i B)) := by
  refine Ok_of rfl (Nat.le_of_ble_eq_true rfl) (fun E hC hQ hl hD hB hN hR => ?_)
  subst hl hD hB
  have hr9 := h_row_p.len
  unfold nameS at hr
  show G E M 0 0 [(0, .ref p), (1, vI fr), (2, vI to)] [] 0
  refine G_iload_n hC 2 rfl rfl d_Tx_isName_0 ?_
  refine G_iload_n hC 1 rfl rfl d_Tx_isName_1 ?_
  refine G_isub hC d_Tx_isName_2 ?_
  refine G_i2lR hC (by omega) d_Tx_isName_3 ?_
  refine G_lconst (v := zL 1) hC (by decide +kernel) d_Tx_isName_4 ?_
  refine G_ldc2R (a := 60) hC lc_Tx_33 d_Tx_isName_5 ?_
  refine G_pSN (rest := []) hC hR (c_Mo_in (by omega) (by omega) (by omega)) cn_Tx_35 (by decide) (by omega) (by omega) rfl rfl (Nat.le_of_ble_eq_true rfl) d_Tx_isName_8 ?_
  refine G_if_ne hC 16 (by have := b2i_rng (decide (1 ≤ (to - fr) ∧ (to - fr) ≤ 60)); omega) (by decide) d_Tx_isName_11 (fun c_1 => ?_) (fun c_1 => ?_)
  · have c_1 := b2i_ne0.mp c_1
    have c_1 := of_decide_eq_true c_1
    refine G_iconst (i := 0) hC d_Tx_isName_16 ?_
    refine G_istore_n (lv' := [(3, vI 0), (0, .ref p), (1, vI fr), (2, vI to)]) hC rfl (by rw [hN]; decide) rfl d_Tx_isName_17 ?_
    refine G_iload_n hC 2 rfl rfl d_Tx_isName_18 ?_
    refine G_istore (lv' := [(4, vI fr), (3, vI 0), (0, .ref p), (1, vI fr), (2, vI to)]) hC (by rw [hN]; decide) rfl d_Tx_isName_19 ?_
    have L21 : ∀ (N : Nat) (part : Int) (k : Int), (to - k).toNat < N → (fr ≤ k ∧ k ≤ to) → (0 ≤ part ∧ part ≤ 20) → (nameL xs to k part = B) → G E M 0 0 [(0, .ref p), (1, vI fr), (2, vI to), (3, vI part), (4, vI k)] [] 21 := by
      intro N
      induction N with
      | zero => intro part k hN21 hk hp hf; exact absurd hN21 (Nat.not_lt_zero _)
      | succ N ih21 =>
        intro part k hN21 hk hp hf
        refine G_iload hC 4 rfl d_Tx_isName_21 ?_
        refine G_iload_n hC 2 rfl rfl d_Tx_isName_23 ?_
        refine G_icmp_ge hC 98 (by omega) (by omega) (by decide) d_Tx_isName_24 (fun c_2 => ?_) (fun c_2 => ?_)
        · refine G_iload_n hC 3 rfl rfl d_Tx_isName_98 ?_
          refine G_if_le hC 106 (by omega) (by decide) d_Tx_isName_99 (fun c_3 => ?_) (fun c_3 => ?_)
          · refine G_iconst (i := 0) hC d_Tx_isName_106 ?_
            exact G_zretP hC hQ d_Tx_isName_107 (b2i_f (by rw [nameL] at hf; (repeat' split at hf); all_goals first | exact hf.symm | (exfalso; omega) | (rw [← hf]; exact decide_eq_false (by omega))))
          · refine G_iconst (i := 1) hC d_Tx_isName_102 ?_
            refine G_goto hC 107 (by decide) d_Tx_isName_103 ?_
            exact G_zretP hC hQ d_Tx_isName_107 (b2i_t (by rw [nameL] at hf; (repeat' split at hf); all_goals first | exact hf.symm | (exfalso; omega) | (rw [← hf]; exact decide_eq_true (by omega))))
        · refine G_aload_n hC 0 rfl rfl d_Tx_isName_27 ?_
          refine G_iload hC 4 rfl d_Tx_isName_28 ?_
          refine G_baldR hC h_row_p (by omega) d_Tx_isName_30 ?_
          have g_4 := h_row_p.rng k
          have g_5 := atS_gx (xs := xs) (i := k) (by omega)
          refine G_istore (lv' := [(5, vI (gx xs k)), (0, .ref p), (1, vI fr), (2, vI to), (3, vI part), (4, vI k)]) hC (by rw [hN]; decide) rfl d_Tx_isName_31 ?_
          refine G_iload hC 0 rfl d_Tx_isName_33 ?_
          refine G_bipush (j := 46) hC (by decide +kernel) d_Tx_isName_35 ?_
          refine G_icmp_ne hC 51 (by omega) (by decide) (by decide) d_Tx_isName_37 (fun c_6 => ?_) (fun c_6 => ?_)
          · refine G_iload hC 0 rfl d_Tx_isName_51 ?_
            refine G_pSN (rest := []) hC hR (c_Mo_isSmall (by omega)) cn_Tx_39 (by decide) (by omega) (by omega) rfl rfl (Nat.le_of_ble_eq_true rfl) d_Tx_isName_53 ?_
            refine G_if_ne hC 81 (by have := b2i_rng (decide (letP (gx xs k))); omega) (by decide) d_Tx_isName_56 (fun c_7 => ?_) (fun c_7 => ?_)
            · have c_7 := b2i_ne0.mp c_7
              have c_7 := of_decide_eq_true c_7
              refine G_iload_n hC 4 rfl rfl d_Tx_isName_81 ?_
              refine G_bipush (j := 20) hC (by decide +kernel) d_Tx_isName_82 ?_
              refine G_icmp_ne hC 89 (by omega) (by decide) (by decide) d_Tx_isName_84 (fun c_8 => ?_) (fun c_8 => ?_)
              · refine G_iinc (lv' := [(3, vI (part + 1)), (5, vI (gx xs k)), (0, .ref p), (1, vI fr), (2, vI to), (4, vI k)]) hC 4 rfl (by rw [hN]; decide) rfl d_Tx_isName_89 ?_
                refine G_iinc (lv' := [(4, vI (k + 1)), (3, vI (part + 1)), (5, vI (gx xs k)), (0, .ref p), (1, vI fr), (2, vI to)]) hC 5 rfl (by rw [hN]; decide) rfl d_Tx_isName_92 ?_
                refine G_goto hC 21 (by decide) d_Tx_isName_95 ?_
                refine G_lv [3, 4, 5, 1, 0] rfl ?_
                exact ih21 (part + 1) (k + 1) (by omega) (by omega) (by omega) (by rw [nameL] at hf; (repeat' split at hf); all_goals first | exact hf | (exfalso; omega) | omega)
              · refine G_iconst (i := 0) hC d_Tx_isName_87 ?_
                exact G_zretP hC hQ d_Tx_isName_88 (b2i_f (by rw [nameL] at hf; (repeat' split at hf); all_goals first | exact hf.symm | (exfalso; omega) | (rw [← hf]; exact decide_eq_false (by omega))))
            · have c_7 := b2i_eq0.mp c_7
              have c_7 := of_decide_eq_false c_7
              refine G_iload hC 0 rfl d_Tx_isName_59 ?_
              refine G_pSN (rest := []) hC hR (c_Mo_isDigit (by omega)) cn_Tx_43 (by decide) (by omega) (by omega) rfl rfl (Nat.le_of_ble_eq_true rfl) d_Tx_isName_61 ?_
              refine G_if_ne hC 81 (by have := b2i_rng (decide (digP (gx xs k))); omega) (by decide) d_Tx_isName_64 (fun c_9 => ?_) (fun c_9 => ?_)
              · have c_9 := b2i_ne0.mp c_9
                have c_9 := of_decide_eq_true c_9
                refine G_iload_n hC 4 rfl rfl d_Tx_isName_81 ?_
                refine G_bipush (j := 20) hC (by decide +kernel) d_Tx_isName_82 ?_
                refine G_icmp_ne hC 89 (by omega) (by decide) (by decide) d_Tx_isName_84 (fun c_10 => ?_) (fun c_10 => ?_)
                · refine G_iinc (lv' := [(3, vI (part + 1)), (5, vI (gx xs k)), (0, .ref p), (1, vI fr), (2, vI to), (4, vI k)]) hC 4 rfl (by rw [hN]; decide) rfl d_Tx_isName_89 ?_
                  refine G_iinc (lv' := [(4, vI (k + 1)), (3, vI (part + 1)), (5, vI (gx xs k)), (0, .ref p), (1, vI fr), (2, vI to)]) hC 5 rfl (by rw [hN]; decide) rfl d_Tx_isName_92 ?_
                  refine G_goto hC 21 (by decide) d_Tx_isName_95 ?_
                  refine G_lv [3, 4, 5, 1, 0] rfl ?_
                  exact ih21 (part + 1) (k + 1) (by omega) (by omega) (by omega) (by rw [nameL] at hf; (repeat' split at hf); all_goals first | exact hf | (exfalso; omega) | omega)
                · refine G_iconst (i := 0) hC d_Tx_isName_87 ?_
                  exact G_zretP hC hQ d_Tx_isName_88 (b2i_f (by rw [nameL] at hf; (repeat' split at hf); all_goals first | exact hf.symm | (exfalso; omega) | (rw [← hf]; exact decide_eq_false (by omega))))
              · have c_9 := b2i_eq0.mp c_9
                have c_9 := of_decide_eq_false c_9
                refine G_iload hC 0 rfl d_Tx_isName_67 ?_
                refine G_bipush (j := 45) hC (by decide +kernel) d_Tx_isName_69 ?_
                refine G_icmp_eq hC 81 (by omega) (by decide) (by decide) d_Tx_isName_71 (fun c_11 => ?_) (fun c_11 => ?_)
                · refine G_iload_n hC 4 rfl rfl d_Tx_isName_81 ?_
                  refine G_bipush (j := 20) hC (by decide +kernel) d_Tx_isName_82 ?_
                  refine G_icmp_ne hC 89 (by omega) (by decide) (by decide) d_Tx_isName_84 (fun c_12 => ?_) (fun c_12 => ?_)
                  · refine G_iinc (lv' := [(3, vI (part + 1)), (5, vI (gx xs k)), (0, .ref p), (1, vI fr), (2, vI to), (4, vI k)]) hC 4 rfl (by rw [hN]; decide) rfl d_Tx_isName_89 ?_
                    refine G_iinc (lv' := [(4, vI (k + 1)), (3, vI (part + 1)), (5, vI (gx xs k)), (0, .ref p), (1, vI fr), (2, vI to)]) hC 5 rfl (by rw [hN]; decide) rfl d_Tx_isName_92 ?_
                    refine G_goto hC 21 (by decide) d_Tx_isName_95 ?_
                    refine G_lv [3, 4, 5, 1, 0] rfl ?_
                    exact ih21 (part + 1) (k + 1) (by omega) (by omega) (by omega) (by rw [nameL] at hf; (repeat' split at hf); all_goals first | exact hf | (exfalso; omega) | omega)
                  · refine G_iconst (i := 0) hC d_Tx_isName_87 ?_
                    exact G_zretP hC hQ d_Tx_isName_88 (b2i_f (by rw [nameL] at hf; (repeat' split at hf); all_goals first | exact hf.symm | (exfalso; omega) | (rw [← hf]; exact decide_eq_false (by omega))))
                · refine G_iload hC 0 rfl d_Tx_isName_74 ?_
                  refine G_bipush (j := 95) hC (by decide +kernel) d_Tx_isName_76 ?_
                  refine G_icmp_ne hC 87 (by omega) (by decide) (by decide) d_Tx_isName_78 (fun c_13 => ?_) (fun c_13 => ?_)
                  · refine G_iconst (i := 0) hC d_Tx_isName_87 ?_
                    exact G_zretP hC hQ d_Tx_isName_88 (b2i_f (by rw [nameL] at hf; (repeat' split at hf); all_goals first | exact hf.symm | (exfalso; omega) | (rw [← hf]; exact decide_eq_false (by omega))))
                  · refine G_iload_n hC 4 rfl rfl d_Tx_isName_81 ?_
                    refine G_bipush (j := 20) hC (by decide +kernel) d_Tx_isName_82 ?_
                    refine G_icmp_ne hC 89 (by omega) (by decide) (by decide) d_Tx_isName_84 (fun c_14 => ?_) (fun c_14 => ?_)
                    · refine G_iinc (lv' := [(3, vI (part + 1)), (5, vI (gx xs k)), (0, .ref p), (1, vI fr), (2, vI to), (4, vI k)]) hC 4 rfl (by rw [hN]; decide) rfl d_Tx_isName_89 ?_
                      refine G_iinc (lv' := [(4, vI (k + 1)), (3, vI (part + 1)), (5, vI (gx xs k)), (0, .ref p), (1, vI fr), (2, vI to)]) hC 5 rfl (by rw [hN]; decide) rfl d_Tx_isName_92 ?_
                      refine G_goto hC 21 (by decide) d_Tx_isName_95 ?_
                      refine G_lv [3, 4, 5, 1, 0] rfl ?_
                      exact ih21 (part + 1) (k + 1) (by omega) (by omega) (by omega) (by rw [nameL] at hf; (repeat' split at hf); all_goals first | exact hf | (exfalso; omega) | omega)
                    · refine G_iconst (i := 0) hC d_Tx_isName_87 ?_
                      exact G_zretP hC hQ d_Tx_isName_88 (b2i_f (by rw [nameL] at hf; (repeat' split at hf); all_goals first | exact hf.symm | (exfalso; omega) | (rw [← hf]; exact decide_eq_false (by omega))))
          · refine G_iload_n hC 4 rfl rfl d_Tx_isName_40 ?_
            refine G_if_ne hC 46 (by omega) (by decide) d_Tx_isName_41 (fun c_15 => ?_) (fun c_15 => ?_)
            · refine G_iconst (i := 0) hC d_Tx_isName_46 ?_
              refine G_istore_n (lv' := [(3, vI 0), (5, vI (gx xs k)), (0, .ref p), (1, vI fr), (2, vI to), (4, vI k)]) hC rfl (by rw [hN]; decide) rfl d_Tx_isName_47 ?_
              refine G_goto hC 92 (by decide) d_Tx_isName_48 ?_
              refine G_iinc (lv' := [(4, vI (k + 1)), (3, vI 0), (5, vI (gx xs k)), (0, .ref p), (1, vI fr), (2, vI to)]) hC 5 rfl (by rw [hN]; decide) rfl d_Tx_isName_92 ?_
              refine G_goto hC 21 (by decide) d_Tx_isName_95 ?_
              refine G_lv [3, 4, 5, 1, 0] rfl ?_
              exact ih21 0 (k + 1) (by omega) (by omega) (by omega) (by rw [nameL] at hf; (repeat' split at hf); all_goals first | exact hf | (exfalso; omega) | omega)
            · refine G_iconst (i := 0) hC d_Tx_isName_44 ?_
              exact G_zretP hC hQ d_Tx_isName_45 (b2i_f (by rw [nameL] at hf; (repeat' split at hf); all_goals first | exact hf.symm | (exfalso; omega) | (rw [← hf]; exact decide_eq_false (by omega))))
    refine G_lv [2, 3, 4, 1, 0] rfl ?_
    exact L21 _ 0 fr (Nat.lt_succ_self _) (by omega) (by omega) (by rw [if_neg (by omega)] at hr; exact hr)
  · have c_1 := b2i_eq0.mp c_1
    have c_1 := of_decide_eq_false c_1
    refine G_iconst (i := 0) hC d_Tx_isName_14 ?_
    exact G_zretP hC hQ d_Tx_isName_15 (b2i_f (by rw [nameL] at hr; (repeat' split at hr); all_goals first | exact hr.symm | (exfalso; omega) | (rw [← hr]; exact decide_eq_false (by omega))))

set_option maxHeartbeats 4000000 in
set_option maxRecDepth 100000 in
theorem c_Tx_init {l : Launch} {D : Dg} {b0 : Nat} {M : Mp} {a : Nat} {room : Int} {t : Nat} (h_obj_a : M a = some (t, .inr (cTx, [.null, vI 0]))) (hroom : 0 ≤ room ∧ room ≤ 20000) : Ok l D b0 2 y_Tx_init b_Tx_init 2 none M [.ref a, vI room] 1 room.toNat (fun r M' => r = none ∧ IsT D M' a t room.toNat ([]) ∧ Fr [t] M M') := by
  refine Ok_of rfl (Nat.le_of_ble_eq_true rfl) (fun E hC hQ hl hD hB hN hR => ?_)
  subst hl hD hB
  show G E M 0 0 [(0, .ref a), (1, vI room)] [] 0
  refine G_aload_n hC 0 rfl rfl d_Tx_init_0 ?_
  refine G_objI hC hR lm_Tx_3 (Nat.le_of_ble_eq_true rfl) (Nat.le_of_ble_eq_true rfl) d_Tx_init_1 ?_
  refine G_aload_n hC 0 rfl rfl d_Tx_init_4 ?_
  refine G_iload_n hC 1 rfl rfl d_Tx_init_5 ?_
  refine G_newBX (t + 1) hC hR w_acB (by omega) (by omega) (by omega) d_Tx_init_6 (fun q_1 M_2 h_3 h_4 fr_5 => ?_)
  have h_6 := fr_5.at h_obj_a (by simp only [List.mem_cons, List.not_mem_nil, or_false, not_or, not_false_eq_true]; try omega)
  refine G_putFX (fs' := [.ref q_1, vI 0]) hC fl_Tx_9 ft_Tx ff_Tx_0 rfl h_6 rfl rfl (Nat.le_of_ble_eq_true rfl) rfl d_Tx_init_8 (fun M_7 h_8 fr_9 => ?_)
  have h_10 := h_4.fr fr_9 (by simp only [List.mem_cons, List.not_mem_nil, or_false, not_or, not_false_eq_true]; try omega)
  exact G_return hC hQ (by omega) (by omega) d_Tx_init_11 ⟨rfl, ⟨q_1, h_8, h_10⟩, ((fr_5.up (T := [t]) (by simp)).tr' (T := [t]) fr_9 (fun _ z => z) (by simp))⟩

set_option maxHeartbeats 4000000 in
set_option maxRecDepth 100000 in
theorem c_Tx_add1 {l : Launch} {D : Dg} {b0 : Nat} {M : Mp} {a : Nat} {c : Int} {t : Nat} {len : Nat} {xs : List Int} (h_Tx_a : IsT D M a t len xs) (hc : -2147483648 ≤ c ∧ c ≤ 2147483647) (hl : xs.length < len) : Ok l D b0 1 y_Tx_add1 b_Tx_add1 2 none M [.ref a, vI c] 0 0 (fun r M' => r = none ∧ IsT D M' a t len (xs ++ [sgb c]) ∧ Fr [t, t + 1] M M') := by
  refine Ok_of rfl (Nat.le_of_ble_eq_true rfl) (fun E hC hQ hl hD hB hN hR => ?_)
  subst hl hD hB
  have g_4 := h_Tx_a.len
  obtain ⟨r_1, h_2, h_3⟩ := id h_Tx_a
  show G E M 0 0 [(0, .ref a), (1, vI c)] [] 0
  refine G_aload_n hC 0 rfl rfl d_Tx_add1_0 ?_
  refine G_get hC fl_Tx_9 h_2 rfl d_Tx_add1_1 ?_
  refine G_aload_n hC 0 rfl rfl d_Tx_add1_4 ?_
  refine G_get hC fl_Tx_15 h_2 rfl d_Tx_add1_5 ?_
  refine G_iload_n hC 1 rfl rfl d_Tx_add1_8 ?_
  refine G_i2bR hC (by omega) d_Tx_add1_9 ?_
  have g_5 := sgb_rng c
  refine G_bastR hC h_3 (by omega) (by omega) (by omega) d_Tx_add1_10 (fun M_6 h_7 fr_8 => ?_)
  refine G_aload_n hC 0 rfl rfl d_Tx_add1_11 ?_
  refine G_dup hC rfl d_Tx_add1_12 ?_
  have h_9 := fr_8.at h_2 (by simp only [List.mem_cons, List.not_mem_nil, or_false, not_or, not_false_eq_true]; try omega)
  refine G_get hC fl_Tx_15 h_9 rfl d_Tx_add1_13 ?_
  refine G_iconst (i := 1) hC d_Tx_add1_16 ?_
  refine G_iadd hC d_Tx_add1_17 ?_
  refine G_putX (fs' := [.ref r_1, vI ((xs.length : Int) + 1)]) hC fl_Tx_15 ft_Tx fw_Tx_1 h_9 rfl rfl (Nat.le_of_ble_eq_true rfl) rfl d_Tx_add1_18 (fun M_10 h_11 fr_12 => ?_)
  have h_13 := h_7.fr fr_12 (by simp only [List.mem_cons, List.not_mem_nil, or_false, not_or, not_false_eq_true]; try omega)
  have e9 : (((xs ++ [sgb c]).length : Nat) : Int) = (xs.length : Int) + 1 := by simp
  exact G_return hC hQ (by omega) (by omega) d_Tx_add1_21 ⟨rfl, ⟨r_1, by rw [e9]; exact h_11, h_13⟩, ((fr_8.up (T := [t, t + 1]) (by simp)).tr' (T := [t, t + 1]) fr_12 (fun _ z => z) (by simp))⟩

set_option maxHeartbeats 4000000 in
set_option maxRecDepth 100000 in
theorem c_Tx_add2 {l : Launch} {D : Dg} {b0 : Nat} {M : Mp} {a : Nat} {p : Nat} {fr : Int} {to : Int} {t : Nat} {len : Nat} {xs : List Int} {t2 : Nat} {len2 : Nat} {ys : List Int} (h_Tx_a : IsT D M a t len xs) (h_row_p : Row D M p t2 len2 ys) (hfr : 0 ≤ fr ∧ fr ≤ to ∧ to ≤ ys.length) (hl : (xs.length : Int) + (to - fr) ≤ len) (htt : t2 ≠ t ∧ t2 ≠ t + 1) : Ok l D b0 2 y_Tx_add2 b_Tx_add2 4 none M [.ref a, .ref p, vI fr, vI to] 0 0 (fun r M' => r = none ∧ IsT D M' a t len (xs ++ (ys.drop fr.toNat).take (to - fr).toNat) ∧ Fr [t, t + 1] M M') := by
  refine Ok_of rfl (Nat.le_of_ble_eq_true rfl) (fun E hC hQ hl hD hB hN hR => ?_)
  subst hl hD hB
  have g_4 := h_Tx_a.len
  obtain ⟨r_1, h_2, h_3⟩ := id h_Tx_a
  have hr9 := h_row_p.len
  show G E M 0 0 [(0, .ref a), (1, .ref p), (2, vI fr), (3, vI to)] [] 0
  refine G_aload_n hC 1 rfl rfl d_Tx_add2_0 ?_
  refine G_iload_n hC 2 rfl rfl d_Tx_add2_1 ?_
  refine G_aload_n hC 0 rfl rfl d_Tx_add2_2 ?_
  refine G_get hC fl_Tx_9 h_2 rfl d_Tx_add2_3 ?_
  refine G_aload_n hC 0 rfl rfl d_Tx_add2_6 ?_
  refine G_get hC fl_Tx_15 h_2 rfl d_Tx_add2_7 ?_
  refine G_iload_n hC 3 rfl rfl d_Tx_add2_10 ?_
  refine G_iload_n hC 2 rfl rfl d_Tx_add2_11 ?_
  refine G_isub hC d_Tx_add2_12 ?_
  refine G_copyBA hC hR lm_Tx_19 w_acN w_acS w_syI h_row_p h_3 (by omega) (by omega) (by omega) (Nat.le_of_ble_eq_true rfl) (Nat.le_of_ble_eq_true rfl) d_Tx_add2_13 (fun M_5 h_6 fr_7 => ?_)
  refine G_aload_n hC 0 rfl rfl d_Tx_add2_16 ?_
  refine G_dup hC rfl d_Tx_add2_17 ?_
  have h_8 := fr_7.at h_2 (by simp only [List.mem_cons, List.not_mem_nil, or_false, not_or, not_false_eq_true]; try omega)
  refine G_get hC fl_Tx_15 h_8 rfl d_Tx_add2_18 ?_
  refine G_iload_n hC 3 rfl rfl d_Tx_add2_21 ?_
  refine G_iload_n hC 2 rfl rfl d_Tx_add2_22 ?_
  refine G_isub hC d_Tx_add2_23 ?_
  refine G_iadd hC d_Tx_add2_24 ?_
  refine G_putX (fs' := [.ref r_1, vI ((xs.length : Int) + (to - fr))]) hC fl_Tx_15 ft_Tx fw_Tx_1 h_8 rfl rfl (Nat.le_of_ble_eq_true rfl) rfl d_Tx_add2_25 (fun M_9 h_10 fr_11 => ?_)
  have h_12 := h_6.fr fr_11 (by simp only [List.mem_cons, List.not_mem_nil, or_false, not_or, not_false_eq_true]; try omega)
  have e9 : (((xs ++ (ys.drop fr.toNat).take (to - fr).toNat).length : Nat) : Int) = (xs.length : Int) + (to - fr) := by rw [List.length_append, List.length_take, List.length_drop]; omega
  exact G_return hC hQ (by omega) (by omega) d_Tx_add2_28 ⟨rfl, ⟨r_1, by rw [e9]; exact h_10, h_12⟩, ((fr_7.up (T := [t, t + 1]) (by simp)).tr' (T := [t, t + 1]) fr_11 (fun _ z => z) (by simp))⟩

set_option maxHeartbeats 4000000 in
set_option maxRecDepth 100000 in
theorem c_Tx_set {l : Launch} {D : Dg} {b0 : Nat} {M : Mp} {a : Nat} {p : Nat} {fr : Int} {to : Int} {t : Nat} {len : Nat} {xs : List Int} {t2 : Nat} {len2 : Nat} {ys : List Int} (h_Tx_a : IsT D M a t len xs) (h_row_p : Row D M p t2 len2 ys) (hfr : 0 ≤ fr ∧ fr ≤ to ∧ to ≤ ys.length) (hl : to - fr ≤ len) (htt : t2 ≠ t ∧ t2 ≠ t + 1) : Ok l D b0 3 y_Tx_set b_Tx_set 4 none M [.ref a, .ref p, vI fr, vI to] 0 0 (fun r M' => r = none ∧ IsT D M' a t len ([] ++ (ys.drop fr.toNat).take (to - fr).toNat) ∧ Fr [t, t + 1] M M') := by
  refine Ok_of rfl (Nat.le_of_ble_eq_true rfl) (fun E hC hQ hl hD hB hN hR => ?_)
  subst hl hD hB
  have g_4 := h_Tx_a.len
  obtain ⟨r_1, h_2, h_3⟩ := id h_Tx_a
  have hr9 := h_row_p.len
  show G E M 0 0 [(0, .ref a), (1, .ref p), (2, vI fr), (3, vI to)] [] 0
  refine G_aload_n hC 0 rfl rfl d_Tx_set_0 ?_
  refine G_iconst (i := 0) hC d_Tx_set_1 ?_
  refine G_putX (fs' := [.ref r_1, vI 0]) hC fl_Tx_15 ft_Tx fw_Tx_1 h_2 rfl rfl (Nat.le_of_ble_eq_true rfl) rfl d_Tx_set_2 (fun M_5 h_6 fr_7 => ?_)
  refine G_aload_n hC 0 rfl rfl d_Tx_set_5 ?_
  refine G_aload_n hC 1 rfl rfl d_Tx_set_6 ?_
  refine G_iload_n hC 2 rfl rfl d_Tx_set_7 ?_
  refine G_iload_n hC 3 rfl rfl d_Tx_set_8 ?_
  have h_8 := h_3.fr fr_7 (by simp only [List.mem_cons, List.not_mem_nil, or_false, not_or, not_false_eq_true]; try omega)
  have h_9 : IsT (eD E) M_5 a t len ([] : List Int) := ⟨r_1, h_6, h_8.take 0⟩
  have h_10 := h_row_p.fr fr_7 (by simp only [List.mem_cons, List.not_mem_nil, or_false, not_or, not_false_eq_true]; try omega)
  refine G_xV (rest := []) hC hR (c_Tx_add2 h_9 h_10 (by omega) (by simp only [List.length_nil]; omega) htt) cv_Tx_25 ⟨_, _, h_6⟩ (by decide) (by omega) (by omega) rfl rfl (Nat.le_of_ble_eq_true rfl) d_Tx_set_9 (fun r_13 M_11 p_12 => ?_)
  obtain ⟨rfl, h_14, fr_15⟩ := p_12
  show G E M_11 (0 + 0) (0 + 0) [(0, .ref a), (1, .ref p), (2, vI fr), (3, vI to)] [] 12
  exact G_return hC hQ (by omega) (by omega) d_Tx_set_12 ⟨rfl, h_14, ((fr_7.up (T := [t, t + 1]) (by simp)).tr' (T := [t, t + 1]) fr_15 (fun _ z => z) (by simp))⟩

set_option maxHeartbeats 4000000 in
set_option maxRecDepth 100000 in
theorem c_Tx_is1 {l : Launch} {D : Dg} {b0 : Nat} {M : Mp} {a : Nat} {p : Nat} {fr : Int} {to : Int} {t : Nat} {len : Nat} {xs : List Int} {t2 : Nat} {len2 : Nat} {ys : List Int} (h_Tx_a : IsT D M a t len xs) (h_row_p : Row D M p t2 len2 ys) (hfr : fr = 0 ∧ to = ys.length) : OkP l D b0 1 y_Tx_is1 b_Tx_is1 5 (some .boolean) M [.ref a, .ref p, vI fr, vI to] (vI (b2i (decide (xs = ys)))) := by
  refine Ok_of rfl (Nat.le_of_ble_eq_true rfl) (fun E hC hQ hl hD hB hN hR => ?_)
  subst hl hD hB
  have g_4 := h_Tx_a.len
  obtain ⟨r_1, h_2, h_3⟩ := id h_Tx_a
  have hr9 := h_row_p.len
  show G E M 0 0 [(0, .ref a), (1, .ref p), (2, vI fr), (3, vI to)] [] 0
  refine G_iload_n hC 3 rfl rfl d_Tx_is1_0 ?_
  refine G_iload_n hC 2 rfl rfl d_Tx_is1_1 ?_
  refine G_isub hC d_Tx_is1_2 ?_
  refine G_aload_n hC 0 rfl rfl d_Tx_is1_3 ?_
  refine G_get hC fl_Tx_15 h_2 rfl d_Tx_is1_4 ?_
  refine G_icmp_eq hC 12 (by omega) (by omega) (by decide) d_Tx_is1_7 (fun c_5 => ?_) (fun c_5 => ?_)
  · refine G_iconst (i := 0) hC d_Tx_is1_12 ?_
    refine G_istore (lv' := [(4, vI 0), (0, .ref a), (1, .ref p), (2, vI fr), (3, vI to)]) hC (by rw [hN]; decide) rfl d_Tx_is1_13 ?_
    have L15 : ∀ (N : Nat) (k : Int), ((xs.length : Int) - k).toNat < N → (0 ≤ k ∧ k ≤ xs.length) → (∀ j : Nat, (j : Int) < k → xs.getD j 0 = ys.getD j 0) → G E M 0 0 [(0, .ref a), (1, .ref p), (2, vI fr), (3, vI to), (4, vI k)] [] 15 := by
      intro N
      induction N with
      | zero => intro k hN15 hk hv; exact absurd hN15 (Nat.not_lt_zero _)
      | succ N ih15 =>
        intro k hN15 hk hv
        refine G_iload hC 4 rfl d_Tx_is1_15 ?_
        refine G_aload_n hC 0 rfl rfl d_Tx_is1_17 ?_
        refine G_get hC fl_Tx_15 h_2 rfl d_Tx_is1_18 ?_
        refine G_icmp_ge hC 48 (by omega) (by omega) (by decide) d_Tx_is1_21 (fun c_6 => ?_) (fun c_6 => ?_)
        · refine G_iconst (i := 1) hC d_Tx_is1_48 ?_
          exact G_zretP hC hQ d_Tx_is1_49 (b2i_t (decide_eq_true (ext_getD (by omega) (fun j hj => hv j (by omega)))))
        · refine G_aload_n hC 0 rfl rfl d_Tx_is1_24 ?_
          refine G_get hC fl_Tx_9 h_2 rfl d_Tx_is1_25 ?_
          refine G_iload hC 4 rfl d_Tx_is1_28 ?_
          refine G_baldR hC h_3 (by omega) d_Tx_is1_30 ?_
          have g_7 := h_3.rng k
          have g_8 := atS_gx (xs := xs) (i := k) (by omega)
          refine G_aload_n hC 1 rfl rfl d_Tx_is1_31 ?_
          refine G_iload_n hC 2 rfl rfl d_Tx_is1_32 ?_
          refine G_iload hC 4 rfl d_Tx_is1_33 ?_
          refine G_iadd hC d_Tx_is1_35 ?_
          refine G_baldR hC h_row_p (by omega) d_Tx_is1_36 ?_
          have g_9 := h_row_p.rng (fr + k)
          have g_10 := atS_gx (xs := ys) (i := fr + k) (by omega)
          refine G_icmp_eq hC 42 (by omega) (by omega) (by decide) d_Tx_is1_37 (fun c_11 => ?_) (fun c_11 => ?_)
          · refine G_iinc (lv' := [(4, vI (k + 1)), (0, .ref a), (1, .ref p), (2, vI fr), (3, vI to)]) hC 4 rfl (by rw [hN]; decide) rfl d_Tx_is1_42 ?_
            refine G_goto hC 15 (by decide) d_Tx_is1_45 ?_
            refine G_lv [1, 2, 3, 4, 0] rfl ?_
            exact ih15 (k + 1) (by omega) (by omega) (fun j hj => by
                by_cases hjk : (j : Int) < k
                · exact hv j hjk
                · have hj9 : j = k.toNat := by omega
                  have hj8 : (fr + k).toNat = k.toNat := by omega
                  have hj7 := c_11
                  unfold gx at hj7
                  rw [hj8] at hj7
                  subst hj9
                  exact hj7)
          · refine G_iconst (i := 0) hC d_Tx_is1_40 ?_
            exact G_zretP hC hQ d_Tx_is1_41 (b2i_f (decide_eq_false (fun e => c_11 (by unfold gx; rw [e, show (fr + k).toNat = k.toNat by omega]))))
    refine G_lv [1, 2, 3, 4, 0] rfl ?_
    exact L15 _ 0 (Nat.lt_succ_self _) (by omega) (fun j hj => absurd hj (by omega))
  · refine G_iconst (i := 0) hC d_Tx_is1_10 ?_
    exact G_zretP hC hQ d_Tx_is1_11 (b2i_f (decide_eq_false (fun e => c_5 (by rw [e]; omega))))

set_option maxHeartbeats 4000000 in
set_option maxRecDepth 100000 in
theorem c_Tx_is2 {l : Launch} {D : Dg} {b0 : Nat} {M : Mp} {a : Nat} {o : Nat} {t : Nat} {len : Nat} {xs : List Int} {t2 : Nat} {len2 : Nat} {ys : List Int} (h_Tx_a : IsT D M a t len xs) (h_Tx_o : IsT D M o t2 len2 ys) : OkP l D b0 2 y_Tx_is2 b_Tx_is2 2 (some .boolean) M [.ref a, .ref o] (vI (b2i (decide (xs = ys)))) := by
  refine Ok_of rfl (Nat.le_of_ble_eq_true rfl) (fun E hC hQ hl hD hB hN hR => ?_)
  subst hl hD hB
  have g_4 := h_Tx_o.len
  obtain ⟨r_1, h_2, h_3⟩ := id h_Tx_o
  show G E M 0 0 [(0, .ref a), (1, .ref o)] [] 0
  refine G_aload_n hC 0 rfl rfl d_Tx_is2_0 ?_
  refine G_aload_n hC 1 rfl rfl d_Tx_is2_1 ?_
  refine G_get hC fl_Tx_9 h_2 rfl d_Tx_is2_2 ?_
  refine G_iconst (i := 0) hC d_Tx_is2_5 ?_
  refine G_aload_n hC 1 rfl rfl d_Tx_is2_6 ?_
  refine G_get hC fl_Tx_15 h_2 rfl d_Tx_is2_7 ?_
  refine G_pV (rest := []) hC hR (c_Tx_is1 h_Tx_a h_3 (by omega)) cv_Tx_29 h_Tx_a.obj (by decide) (by omega) (by omega) rfl rfl (Nat.le_of_ble_eq_true rfl) d_Tx_is2_10 ?_
  exact G_zretP hC hQ d_Tx_is2_13 rfl
end
section
/-! OBJECTS: entries and the directory -/
abbrev Ent : Type := Int × Int32 × List Int × List Int
def IsE (D : Dg) (M : Mp) (e t : Nat) (x : Ent) : Prop := ∃ (nm vl : Nat) (l1 l2 : Int) (bn bv : Bv), M e = some (t, .inr (cEn, [vI x.1, .int x.2.1, .ref nm, .ref vl])) ∧ IsB D M nm (t + 1) l1 bn ∧ IsB D M vl (t + 3) l2 bv ∧ bn.2 = x.2.2.1 ∧ bv.2 = x.2.2.2 ∧ 0 ≤ x.1 ∧ x.1 ≤ 3
theorem IsE.fr {D : Dg} {M M' : Mp} {e t : Nat} {x : Ent} {T : List Nat} (h : IsE D M e t x) (hf : Fr T M M') (hn : ∀ u ∈ T, u < t ∨ t + 4 < u) : IsE D M' e t x := by
  obtain ⟨nm, vl, l1, l2, bn, bv, h1, h2, h3, h4⟩ := h
  have g : ∀ i : Nat, i ≤ 4 → t + i ∉ T := fun i hi z => by
    have := hn _ z
    omega
  exact ⟨nm, vl, l1, l2, bn, bv, hf.at h1 (g 0 (by omega)), h2.fr hf (g 1 (by omega)) (g 2 (by omega)), h3.fr hf (g 3 (by omega)) (g 4 (by omega)), h4⟩
theorem IsE.obj {D : Dg} {M : Mp} {e t : Nat} {x : Ent} (h : IsE D M e t x) : IsObj M e cEn := by
  obtain ⟨nm, vl, l1, l2, bn, bv, h1, -⟩ := h
  exact ⟨_, _, h1⟩
def IsDir (D : Dg) (M : Mp) (d : Nat) (es : List Ent) : Prop := ∃ (ar : Nat) (f : Nat → Option Nat), M d = some (6, .inr (cDi, [.ref ar, vI (es.length : Int)])) ∧ M ar = some (7, arR D 2 40 f) ∧ es.length ≤ 40 ∧ ∀ (j : Nat) (x : Ent), es[j]? = some x → ∃ e : Nat, f j = some e ∧ IsE D M e (200 + 5 * j) x
theorem IsDir.fr {D : Dg} {M M' : Mp} {d : Nat} {es : List Ent} {T : List Nat} (h : IsDir D M d es) (hf : Fr T M M') (hn : ∀ u ∈ T, u < 6 ∨ (7 < u ∧ u < 200) ∨ 399 < u) : IsDir D M' d es := by
  obtain ⟨ar, f, h1, h2, h3, h4⟩ := h
  refine ⟨ar, f, hf.at h1 (fun z => ?_), hf.at h2 (fun z => ?_), h3, fun j x hj => ?_⟩
  · have := hn _ z
    omega
  · have := hn _ z
    omega
  · obtain ⟨e, g1, g2⟩ := h4 j x hj
    have hj9 : j < es.length := (List.getElem?_eq_some_iff.mp hj).1
    exact ⟨e, g1, g2.fr hf (fun u hu => by have := hn u hu; omega)⟩
theorem IsDir.obj {D : Dg} {M : Mp} {d : Nat} {es : List Ent} (h : IsDir D M d es) : IsObj M d cDi := by
  obtain ⟨ar, f, h1, -⟩ := h
  exact ⟨_, _, h1⟩
theorem IsDir.len {D : Dg} {M : Mp} {d : Nat} {es : List Ent} (h : IsDir D M d es) : es.length ≤ 40 := by
  obtain ⟨ar, f, h1, h2, h3, -⟩ := h
  exact h3
theorem get_of {es : List Ent} {k : Int} (h : 0 ≤ k ∧ k < es.length) : ∃ x : Ent, es[k.toNat]? = some x ∧ es.drop k.toNat = x :: es.drop (k + 1).toNat := by
  have h1 : k.toNat < es.length := by omega
  refine ⟨es[k.toNat], List.getElem?_eq_getElem h1, ?_⟩
  rw [List.drop_eq_getElem_cons h1]
  have e : (k + 1).toNat = k.toNat + 1 := by omega
  rw [e]
/-! what the directory answers -/
def isD (sort : Int) (nm : List Int) (e : Ent) : Bool := decide (e.1 = sort ∧ e.2.2.1 = nm)
def hasD (es : List Ent) (sort : Int) (nm : List Int) : Bool := es.any (isD sort nm)
theorem isD_no {sort : Int} {nm : List Int} {x : Ent} (h : ¬ (x.1 = sort ∧ x.2.2.1 = nm)) : isD sort nm x = false := decide_eq_false h
theorem isD_yes {sort : Int} {nm : List Int} {x : Ent} (h : x.1 = sort ∧ x.2.2.1 = nm) : isD sort nm x = true := decide_eq_true h
theorem G_X2I {E : Cxt} {M : Mp} {k n pc : Nat} {lv : List (Nat × Value)} {st : List Value} {x : Int32} (kk : G E M k n lv (vI x.toInt :: st) pc) : G E M k n lv (.int x :: st) pc := by
  have e : vI x.toInt = .int x := congrArg Value.int (zI_self x)
  rw [e] at kk
  exact kk
def sbS (a b : Int32) (n : Int) : Bool := decide (n ≤ 0 ∨ (((a ^^^ b).toUInt32 >>> ((zI (32 - n)).toUInt32 &&& Int32.toUInt32 31)).toInt32).toInt = 0)
abbrev recP (v : List Int) : Prop := hasS v (wrd 0) 0 v.length = true ∧ ((v.length : Int) = ((wrd 0).length : Int) ∨ atS v ((wrd 0).length : Int) = 32)
def isP (nm : List Int) (e : Ent) : Bool := decide (e.1 = 0 ∧ recP e.2.2.2 ∧ e.2.2.1 = nm)
def reaP (nm : List Int) (a : Int32) (n : Int) (e : Ent) : Bool := decide (e.1 = 1 ∧ sbS e.2.1 a n = true ∧ e.2.2.1 = nm)
def reaD (es : List Ent) (nm : List Int) (a : Int32) (n : Int) : Bool := es.any (reaP nm a n)
theorem reaP_no {nm : List Int} {a : Int32} {n : Int} {x : Ent} (h : ¬ (x.1 = 1 ∧ sbS x.2.1 a n = true ∧ x.2.2.1 = nm)) : reaP nm a n x = false := decide_eq_false h
theorem reaP_yes {nm : List Int} {a : Int32} {n : Int} {x : Ent} (h : x.1 = 1 ∧ sbS x.2.1 a n = true ∧ x.2.2.1 = nm) : reaP nm a n x = true := decide_eq_true h
/-- whether an entry may be taken -/
abbrev goodP (xs : List Int) (sort blank : Int) : Prop := nameS xs 0 blank = true ∧ ((sort = 0 ∧ ¬ blank = xs.length ∧ xs.length - blank - 1 ≤ 700) ∨ (sort = 2 ∧ ¬ blank = xs.length ∧ nameS xs (blank + 1) xs.length = true) ∨ ((sort = 1 ∨ sort = 3) ∧ blank = xs.length))
theorem G_aretN {E : Cxt} {cc : ByteArray} {y : MethodName} {M : Mp} {lv : List (Nat × Value)} {pc : Nat} {c : String} (hC : Cx E cc y) (hQ : Cr E (some (.object c)) 0 0 (fun r M' => r = some .null ∧ M' = M)) (d : decode cc pc = .ok (.areturn, 1)) : G E M 0 0 lv [.null] pc := G_areturn hC hQ (Or.inl ⟨_, rfl⟩) (Or.inl rfl) (Nat.le_refl _) (Nat.le_refl _) d ⟨rfl, rfl⟩
end
section
/-! NEW CELLS, and arrays of ints and of references, in the form in which walks use them -/
def NewW (own : String) (idx ci N : Nat) (tys : Nat → FieldType) : Prop := ∃ (C : String) (T : u_T), vwCl[ci]? = some (C, T, N) ∧ FT ci tys ∧ (∀ w ∈ u_ws C T N, w ∈ TB) ∧ Cond.classLink own idx C ∈ TB ∧ Cond.instantiable C N ∈ TB ∧ Cond.initialized C ∈ TB
theorem G_newX {E : Cxt} {cc : ByteArray} {y : MethodName} {M : Mp} {k n pc idx ci N dE mcE msE : Nat} {lv : List (Nat × Value)} {st : List Value} {tys : Nat → FieldType} (t : Nat) (fs : List Value) (hC : Cx E cc y) (hR : eR E = rmD dE mcE msE) (hW : NewW y.cls idx ci N tys) (hfs : ∀ j, j < N → defaultValue (tys j) = vp_V fs j) (hk : k + 1 ≤ mcE) (hn : n + N ≤ msE) (d : decode cc pc = .ok (.new idx, 3))
    (kk : ∀ (q : Nat) (M' : Mp), M' q = some (t, .inr (ci, fs)) → Fr [] M M' → G E M' (k + 1) (n + N) lv (.ref q :: st) (pc + 3)) : G E M k n lv st pc := by
  obtain ⟨C, T, h1, h2, h3, h4, h5, h6⟩ := hW
  exact G_new t hC h1 h2 h3 h4 h5 h6 hfs (by rw [hR]; exact hk) (by rw [hR]; exact hn) d (fun q hq => kk q _ (mset_self _ _ _) (Fr_new hq))
theorem G_newIX {E : Cxt} {cc : ByteArray} {y : MethodName} {M : Mp} {k n pc dE mcE msE : Nat} {lv : List (Nat × Value)} {st : List Value} {i : Int} (t : Nat) (hC : Cx E cc y) (hR : eR E = rmD dE mcE msE) (hw : Cond.arrayClass .int ∈ TB) (hi : 0 ≤ i ∧ i ≤ 20000) (hk : k + 1 ≤ mcE) (hn : n + i.toNat ≤ msE) (d : decode cc pc = .ok (.newarray .int, 2))
    (kk : ∀ (q : Nat) (M' : Mp), M' q = some (t, arI (eD E) i.toNat (fun _ => 0)) → Fr [] M M' → G E M' (k + 1) (n + i.toNat) lv (.ref q :: st) (pc + 2)) : G E M k n lv (vI i :: st) pc :=
  G_newI t hC hw (by omega) (by rw [hR]; exact hk) (by rw [hR]; exact hn) d (fun q hq => kk q _ (mset_self _ _ _) (Fr_new hq))
theorem G_anewX {E : Cxt} {cc : ByteArray} {y : MethodName} {M : Mp} {k n pc idx q0 dE mcE msE : Nat} {C : String} {lv : List (Nat × Value)} {st : List Value} {i : Int} (t : Nat) (hC : Cx E cc y) (hR : eR E = rmD dE mcE msE) (w1 : Cond.classLink y.cls idx C ∈ TB) (hC9 : C ∈ ["SendPolicy$Entry", "SendPolicy$Level", "SendPolicyModel$Text"]) (hq9 : (TYS (eD E))[q0]? = some ((eD E).2.1 q0, .object C)) (hi : 0 ≤ i ∧ i ≤ 20000) (hk : k + 1 ≤ mcE) (hn : n + i.toNat ≤ msE) (d : decode cc pc = .ok (.anewarray idx, 3))
    (kk : ∀ (q : Nat) (M' : Mp), M' q = some (t, arR (eD E) q0 i.toNat (fun _ => none)) → Fr [] M M' → G E M' (k + 1) (n + i.toNat) lv (.ref q :: st) (pc + 3)) : G E M k n lv (vI i :: st) pc :=
  G_anew t hC w1 hC9 hq9 (by omega) (by rw [hR]; exact hk) (by rw [hR]; exact hn) d (fun q hq => kk q _ (mset_self _ _ _) (Fr_new hq))
theorem G_iastX {E : Cxt} {cc : ByteArray} {y : MethodName} {M : Mp} {k n pc a t len : Nat} {lv : List (Nat × Value)} {st : List Value} {g : Nat → Int} {i x : Int} (hC : Cx E cc y) (ha : M a = some (t, arI (eD E) len g)) (hi : 0 ≤ i ∧ i < len) (hi2 : i ≤ 2147483647) (d : decode cc pc = .ok (.iastore, 1)) (kk : ∀ M' : Mp, M' a = some (t, arI (eD E) len (updZ g i.toNat x)) → Fr [t] M M' → G E M' k n lv st (pc + 1)) : G E M k n lv (vI x :: vI i :: .ref a :: st) pc :=
  G_iast hC ha hi hi2 d (kk _ (mset_self _ _ _) (Fr_set ha))
theorem G_aastX {E : Cxt} {cc : ByteArray} {y : MethodName} {M : Mp} {k n pc a t len q ci v u : Nat} {r : vw_C} {lv : List (Nat × Value)} {st vs : List Value} {f : Nat → Option Nat} {i : Int} (hC : Cx E cc y) (ha : M a = some (t, arR (eD E) q len f)) (hc : vwCl[ci]? = some r) (hq9 : (TYS (eD E))[q]? = some ((eD E).2.1 q, .object r.1)) (hv : M v = some (u, .inr (ci, vs))) (hi : 0 ≤ i ∧ i < len) (hi2 : i ≤ 2147483647) (d : decode cc pc = .ok (.aastore, 1)) (kk : ∀ M' : Mp, M' a = some (t, arR (eD E) q len (va_up f i.toNat (some v))) → Fr [t] M M' → G E M' k n lv st (pc + 1)) : G E M k n lv (.ref v :: vI i :: .ref a :: st) pc :=
  G_aast hC ha hc hq9 hv hi hi2 d (kk _ (mset_self _ _ _) (Fr_set ha))
end
section
theorem fws_Di : ∀ w ∈ u_ws R_Di F_Di 2, w ∈ TB := by decide +kernel
theorem ft_Di : FT cDi t_Di := fun C T N h => by
  have h2 : some (R_Di, F_Di, 2) = some (C, T, N) := h
  cases h2
  exact ⟨by decide +kernel, by decide +kernel⟩
theorem fl_Di_17 : FL "SendPolicy$Directory" 17 cDi 1 := ⟨R_Di, F_Di, 2, rfl, fws_Di, (Nat.le_of_ble_eq_true rfl), (tb_in 86 (by decide +kernel) rfl)⟩
theorem fw_Di_1 : FW cDi 1 := fun C T N h => by
  have h2 : some (R_Di, F_Di, 2) = some (C, T, N) := h
  cases h2
  rfl
theorem fl_Di_11 : FL "SendPolicy$Directory" 11 cDi 0 := ⟨R_Di, F_Di, 2, rfl, fws_Di, (Nat.le_of_ble_eq_true rfl), (tb_in 85 (by decide +kernel) rfl)⟩
theorem fws_En : ∀ w ∈ u_ws R_En F_En 4, w ∈ TB := by decide +kernel
theorem ft_En : FT cEn t_En := fun C T N h => by
  have h2 : some (R_En, F_En, 4) = some (C, T, N) := h
  cases h2
  exact ⟨by decide +kernel, by decide +kernel⟩
theorem fl_Di_60 : FL "SendPolicy$Directory" 60 cEn 0 := ⟨R_En, F_En, 4, rfl, fws_En, (Nat.le_of_ble_eq_true rfl), (tb_in 312 (by decide +kernel) rfl)⟩
theorem fl_Di_43 : FL "SendPolicy$Directory" 43 cEn 2 := ⟨R_En, F_En, 4, rfl, fws_En, (Nat.le_of_ble_eq_true rfl), (tb_in 316 (by decide +kernel) rfl)⟩
set_option maxRecDepth 100000 in
theorem mw_By_same : MW y_By_same b_By_same 3 (some .boolean) 1 := ⟨tb_in 399 rfl rfl, (tb_in 31 (by decide +kernel) rfl), ⟨by decide +kernel, by decide +kernel, by decide +kernel⟩, (Nat.le_of_ble_eq_true rfl)⟩
theorem cv_Di_63 : CV "SendPolicy$Directory" 63 y_By_same b_By_same 3 (some .boolean) 1 cBy := ⟨mw_By_same, (tb_in 396 (by decide +kernel) rfl), (tb_in 397 (by decide +kernel) rfl), (tb_in 398 (by decide +kernel) rfl), _, rfl, rfl⟩
theorem fl_Di_51 : FL "SendPolicy$Directory" 51 cEn 3 := ⟨R_En, F_En, 4, rfl, fws_En, (Nat.le_of_ble_eq_true rfl), (tb_in 318 (by decide +kernel) rfl)⟩
theorem lm_Di_3 : Cond.methodLink "SendPolicy$Directory" 3 ⟨"java/lang/Object", "<init>", "()V"⟩ ∈ TB := (tb_in 82 (by decide +kernel) rfl)
theorem kl_Di_9 : Cond.classLink "SendPolicy$Directory" 9 "SendPolicy$Entry" ∈ TB := (tb_in 83 (by decide +kernel) rfl)
theorem ff_Di_0 : FF "SendPolicy$Directory" cDi 0 := fun C T N h => by
  have h2 : some (R_Di, F_Di, 2) = some (C, T, N) := h
  cases h2
  exact ⟨rfl, rfl⟩
set_option maxRecDepth 100000 in
theorem mw_Si_isName : MW y_Si_isName b_Si_isName 6 (some .boolean) 3 := ⟨tb_in 292 rfl rfl, (tb_in 43 (by decide +kernel) rfl), ⟨by decide +kernel, by decide +kernel, by decide +kernel⟩, (Nat.le_of_ble_eq_true rfl)⟩
theorem cs_Di_54 : CS "SendPolicy$Directory" 54 y_Si_isName b_Si_isName 6 (some .boolean) 3 := ⟨mw_Si_isName, (tb_in 290 (by decide +kernel) rfl), (tb_in 291 (by decide +kernel) rfl)⟩
set_option maxRecDepth 100000 in
theorem mw_By_size : MW y_By_size b_By_size 1 (some .int) 0 := ⟨tb_in 235 rfl rfl, (tb_in 31 (by decide +kernel) rfl), ⟨by decide +kernel, by decide +kernel, by decide +kernel⟩, (Nat.le_of_ble_eq_true rfl)⟩
theorem cv_Di_21 : CV "SendPolicy$Directory" 21 y_By_size b_By_size 1 (some .int) 0 cBy := ⟨mw_By_size, (tb_in 278 (by decide +kernel) rfl), (tb_in 233 (by decide +kernel) rfl), (tb_in 234 (by decide +kernel) rfl), _, rfl, rfl⟩
set_option maxRecDepth 100000 in
theorem mw_En_isPolicyOf : MW y_En_isPolicyOf b_En_isPolicyOf 4 (some .boolean) 1 := ⟨tb_in 407 rfl rfl, (tb_in 44 (by decide +kernel) rfl), ⟨by decide +kernel, by decide +kernel, by decide +kernel⟩, (Nat.le_of_ble_eq_true rfl)⟩
theorem cv_Di_67 : CV "SendPolicy$Directory" 67 y_En_isPolicyOf b_En_isPolicyOf 4 (some .boolean) 1 cEn := ⟨mw_En_isPolicyOf, (tb_in 404 (by decide +kernel) rfl), (tb_in 405 (by decide +kernel) rfl), (tb_in 406 (by decide +kernel) rfl), _, rfl, rfl⟩
theorem fl_Di_70 : FL "SendPolicy$Directory" 70 cEn 1 := ⟨R_En, F_En, 4, rfl, fws_En, (Nat.le_of_ble_eq_true rfl), (tb_in 314 (by decide +kernel) rfl)⟩
set_option maxRecDepth 100000 in
theorem mw_Di_sameBits : MW y_Di_sameBits b_Di_sameBits 3 (some .boolean) 3 := ⟨tb_in 578 rfl rfl, (tb_in 33 (by decide +kernel) rfl), ⟨by decide +kernel, by decide +kernel, by decide +kernel⟩, (Nat.le_of_ble_eq_true rfl)⟩
theorem cs_Di_73 : CS "SendPolicy$Directory" 73 y_Di_sameBits b_Di_sameBits 3 (some .boolean) 3 := ⟨mw_Di_sameBits, (tb_in 631 (by decide +kernel) rfl), (tb_in 577 (by decide +kernel) rfl)⟩
set_option maxRecDepth 100000 in
theorem mw_By_find : MW y_By_find b_By_find 5 (some .int) 3 := ⟨tb_in 282 rfl rfl, (tb_in 31 (by decide +kernel) rfl), ⟨by decide +kernel, by decide +kernel, by decide +kernel⟩, (Nat.le_of_ble_eq_true rfl)⟩
theorem cv_Di_26 : CV "SendPolicy$Directory" 26 y_By_find b_By_find 5 (some .int) 3 cBy := ⟨mw_By_find, (tb_in 279 (by decide +kernel) rfl), (tb_in 280 (by decide +kernel) rfl), (tb_in 281 (by decide +kernel) rfl), _, rfl, rfl⟩
set_option maxRecDepth 100000 in
theorem mw_Di_isGood : MW y_Di_isGood b_Di_isGood 4 (some .boolean) 3 := ⟨tb_in 289 rfl rfl, (tb_in 33 (by decide +kernel) rfl), ⟨by decide +kernel, by decide +kernel, by decide +kernel⟩, (Nat.le_of_ble_eq_true rfl)⟩
theorem cs_Di_30 : CS "SendPolicy$Directory" 30 y_Di_isGood b_Di_isGood 4 (some .boolean) 3 := ⟨mw_Di_isGood, (tb_in 287 (by decide +kernel) rfl), (tb_in 288 (by decide +kernel) rfl)⟩
theorem lm_Di_34 : Cond.methodLink "SendPolicy$Directory" 34 ⟨"java/lang/Math", "min", "(II)I"⟩ ∈ TB := (tb_in 303 (by decide +kernel) rfl)
theorem nw_Di_9 : NewW "SendPolicy$Directory" 9 cEn 4 t_En := ⟨R_En, F_En, rfl, ft_En, fws_En, kl_Di_9, (tb_in 304 (by decide +kernel) rfl), (tb_in 44 (by decide +kernel) rfl)⟩
set_option maxRecDepth 100000 in
theorem mw_En_init : MW y_En_init b_En_init 5 none 4 := ⟨tb_in 307 rfl rfl, (tb_in 44 (by decide +kernel) rfl), ⟨by decide +kernel, by decide +kernel, by decide +kernel⟩, (Nat.le_of_ble_eq_true rfl)⟩
theorem ci_Di_40 : CI "SendPolicy$Directory" 40 y_En_init b_En_init 5 4 := ⟨mw_En_init, (tb_in 305 (by decide +kernel) rfl), (tb_in 306 (by decide +kernel) rfl), rfl⟩
set_option maxRecDepth 100000 in
theorem mw_By_addPart : MW y_By_addPart b_By_addPart 5 none 3 := ⟨tb_in 331 rfl rfl, (tb_in 31 (by decide +kernel) rfl), ⟨by decide +kernel, by decide +kernel, by decide +kernel⟩, (Nat.le_of_ble_eq_true rfl)⟩
theorem cv_Di_47 : CV "SendPolicy$Directory" 47 y_By_addPart b_By_addPart 5 none 3 cBy := ⟨mw_By_addPart, (tb_in 328 (by decide +kernel) rfl), (tb_in 329 (by decide +kernel) rfl), (tb_in 330 (by decide +kernel) rfl), _, rfl, rfl⟩
theorem lm_En_3 : Cond.methodLink "SendPolicy$Entry" 3 ⟨"java/lang/Object", "<init>", "()V"⟩ ∈ TB := (tb_in 308 (by decide +kernel) rfl)
theorem fl_En_9 : FL "SendPolicy$Entry" 9 cEn 0 := ⟨R_En, F_En, 4, rfl, fws_En, (Nat.le_of_ble_eq_true rfl), (tb_in 311 (by decide +kernel) rfl)⟩
theorem ff_En_0 : FF "SendPolicy$Entry" cEn 0 := fun C T N h => by
  have h2 : some (R_En, F_En, 4) = some (C, T, N) := h
  cases h2
  exact ⟨rfl, rfl⟩
theorem fl_En_15 : FL "SendPolicy$Entry" 15 cEn 1 := ⟨R_En, F_En, 4, rfl, fws_En, (Nat.le_of_ble_eq_true rfl), (tb_in 313 (by decide +kernel) rfl)⟩
theorem ff_En_1 : FF "SendPolicy$Entry" cEn 1 := fun C T N h => by
  have h2 : some (R_En, F_En, 4) = some (C, T, N) := h
  cases h2
  exact ⟨rfl, rfl⟩
theorem kl_En_18 : Cond.classLink "SendPolicy$Entry" 18 "SendPolicy$Bytes" ∈ TB := (tb_in 309 (by decide +kernel) rfl)
theorem nw_En_18 : NewW "SendPolicy$Entry" 18 cBy 3 t_By := ⟨R_By, F_By, rfl, ft_By, fws_By, kl_En_18, (tb_in 58 (by decide +kernel) rfl), (tb_in 31 (by decide +kernel) rfl)⟩
set_option maxRecDepth 100000 in
theorem mw_By_init : MW y_By_init b_By_init 2 none 1 := ⟨tb_in 61 rfl rfl, (tb_in 31 (by decide +kernel) rfl), ⟨by decide +kernel, by decide +kernel, by decide +kernel⟩, (Nat.le_of_ble_eq_true rfl)⟩
theorem ci_En_20 : CI "SendPolicy$Entry" 20 y_By_init b_By_init 2 1 := ⟨mw_By_init, (tb_in 310 (by decide +kernel) rfl), (tb_in 60 (by decide +kernel) rfl), rfl⟩
theorem fl_En_23 : FL "SendPolicy$Entry" 23 cEn 2 := ⟨R_En, F_En, 4, rfl, fws_En, (Nat.le_of_ble_eq_true rfl), (tb_in 315 (by decide +kernel) rfl)⟩
theorem ff_En_2 : FF "SendPolicy$Entry" cEn 2 := fun C T N h => by
  have h2 : some (R_En, F_En, 4) = some (C, T, N) := h
  cases h2
  exact ⟨rfl, rfl⟩
theorem fl_En_27 : FL "SendPolicy$Entry" 27 cEn 3 := ⟨R_En, F_En, 4, rfl, fws_En, (Nat.le_of_ble_eq_true rfl), (tb_in 317 (by decide +kernel) rfl)⟩
theorem ff_En_3 : FF "SendPolicy$Entry" cEn 3 := fun C T N h => by
  have h2 : some (R_En, F_En, 4) = some (C, T, N) := h
  cases h2
  exact ⟨rfl, rfl⟩
theorem cv_En_32 : CV "SendPolicy$Entry" 32 y_By_size b_By_size 1 (some .int) 0 cBy := ⟨mw_By_size, (tb_in 409 (by decide +kernel) rfl), (tb_in 233 (by decide +kernel) rfl), (tb_in 234 (by decide +kernel) rfl), _, rfl, rfl⟩
set_option maxRecDepth 100000 in
theorem mw_By_has : MW y_By_has b_By_has 5 (some .boolean) 3 := ⟨tb_in 413 rfl rfl, (tb_in 31 (by decide +kernel) rfl), ⟨by decide +kernel, by decide +kernel, by decide +kernel⟩, (Nat.le_of_ble_eq_true rfl)⟩
theorem cv_En_36 : CV "SendPolicy$Entry" 36 y_By_has b_By_has 5 (some .boolean) 3 cBy := ⟨mw_By_has, (tb_in 410 (by decide +kernel) rfl), (tb_in 411 (by decide +kernel) rfl), (tb_in 412 (by decide +kernel) rfl), _, rfl, rfl⟩
theorem ct_En_40 : CT "SendPolicy$Entry" 40 y_Str_length b_Str_length 1 (some .int) 0 := ⟨mw_Str_length, (tb_in 462 (by decide +kernel) rfl), (tb_in 415 (by decide +kernel) rfl), (tb_in 416 (by decide +kernel) rfl), rfl⟩
theorem cv_En_45 : CV "SendPolicy$Entry" 45 y_By_at b_By_at 2 (some .int) 1 cBy := ⟨mw_By_at, (tb_in 463 (by decide +kernel) rfl), (tb_in 284 (by decide +kernel) rfl), (tb_in 285 (by decide +kernel) rfl), _, rfl, rfl⟩
theorem cv_En_49 : CV "SendPolicy$Entry" 49 y_By_same b_By_same 3 (some .boolean) 1 cBy := ⟨mw_By_same, (tb_in 464 (by decide +kernel) rfl), (tb_in 397 (by decide +kernel) rfl), (tb_in 398 (by decide +kernel) rfl), _, rfl, rfl⟩
/-! DECODE ROWS: printed by wip/gen/names.py -/
theorem d_Di_clear_0 : decode b_Di_clear 0 = .ok (.aload_n 0, 1) := by decide +kernel
theorem d_Di_clear_1 : decode b_Di_clear 1 = .ok (.iconst 0, 1) := by decide +kernel
theorem d_Di_clear_2 : decode b_Di_clear 2 = .ok (.putfield 17, 3) := by decide +kernel
theorem d_Di_clear_5 : decode b_Di_clear 5 = .ok (.return_, 1) := by decide +kernel
theorem d_Di_exchangeAt_0 : decode b_Di_exchangeAt 0 = .ok (.iload_n 1, 1) := by decide +kernel
theorem d_Di_exchangeAt_1 : decode b_Di_exchangeAt 1 = .ok (.ifCond .lt 40, 3) := by decide +kernel
theorem d_Di_exchangeAt_4 : decode b_Di_exchangeAt 4 = .ok (.iload_n 1, 1) := by decide +kernel
theorem d_Di_exchangeAt_5 : decode b_Di_exchangeAt 5 = .ok (.aload_n 0, 1) := by decide +kernel
theorem d_Di_exchangeAt_6 : decode b_Di_exchangeAt 6 = .ok (.getfield 17, 3) := by decide +kernel
theorem d_Di_exchangeAt_9 : decode b_Di_exchangeAt 9 = .ok (.if_icmp .ge 32, 3) := by decide +kernel
theorem d_Di_exchangeAt_12 : decode b_Di_exchangeAt 12 = .ok (.aload_n 0, 1) := by decide +kernel
theorem d_Di_exchangeAt_13 : decode b_Di_exchangeAt 13 = .ok (.getfield 11, 3) := by decide +kernel
theorem d_Di_exchangeAt_16 : decode b_Di_exchangeAt 16 = .ok (.iload_n 1, 1) := by decide +kernel
theorem d_Di_exchangeAt_17 : decode b_Di_exchangeAt 17 = .ok (.aaload, 1) := by decide +kernel
theorem d_Di_exchangeAt_18 : decode b_Di_exchangeAt 18 = .ok (.getfield 60, 3) := by decide +kernel
theorem d_Di_exchangeAt_21 : decode b_Di_exchangeAt 21 = .ok (.iconst 2, 1) := by decide +kernel
theorem d_Di_exchangeAt_22 : decode b_Di_exchangeAt 22 = .ok (.if_icmp .ne 19, 3) := by decide +kernel
theorem d_Di_exchangeAt_25 : decode b_Di_exchangeAt 25 = .ok (.aload_n 0, 1) := by decide +kernel
theorem d_Di_exchangeAt_26 : decode b_Di_exchangeAt 26 = .ok (.getfield 11, 3) := by decide +kernel
theorem d_Di_exchangeAt_29 : decode b_Di_exchangeAt 29 = .ok (.iload_n 1, 1) := by decide +kernel
theorem d_Di_exchangeAt_30 : decode b_Di_exchangeAt 30 = .ok (.aaload, 1) := by decide +kernel
theorem d_Di_exchangeAt_31 : decode b_Di_exchangeAt 31 = .ok (.getfield 43, 3) := by decide +kernel
theorem d_Di_exchangeAt_34 : decode b_Di_exchangeAt 34 = .ok (.aload_n 2, 1) := by decide +kernel
theorem d_Di_exchangeAt_35 : decode b_Di_exchangeAt 35 = .ok (.invokevirtual 63, 3) := by decide +kernel
theorem d_Di_exchangeAt_38 : decode b_Di_exchangeAt 38 = .ok (.ifCond .ne 5, 3) := by decide +kernel
theorem d_Di_exchangeAt_41 : decode b_Di_exchangeAt 41 = .ok (.aconst_null, 1) := by decide +kernel
theorem d_Di_exchangeAt_42 : decode b_Di_exchangeAt 42 = .ok (.areturn, 1) := by decide +kernel
theorem d_Di_exchangeAt_43 : decode b_Di_exchangeAt 43 = .ok (.aload_n 0, 1) := by decide +kernel
theorem d_Di_exchangeAt_44 : decode b_Di_exchangeAt 44 = .ok (.getfield 11, 3) := by decide +kernel
theorem d_Di_exchangeAt_47 : decode b_Di_exchangeAt 47 = .ok (.iload_n 1, 1) := by decide +kernel
theorem d_Di_exchangeAt_48 : decode b_Di_exchangeAt 48 = .ok (.aaload, 1) := by decide +kernel
theorem d_Di_exchangeAt_49 : decode b_Di_exchangeAt 49 = .ok (.getfield 51, 3) := by decide +kernel
theorem d_Di_exchangeAt_52 : decode b_Di_exchangeAt 52 = .ok (.areturn, 1) := by decide +kernel
theorem d_Di_has_0 : decode b_Di_has 0 = .ok (.iconst 0, 1) := by decide +kernel
theorem d_Di_has_1 : decode b_Di_has 1 = .ok (.istore_n 3, 1) := by decide +kernel
theorem d_Di_has_2 : decode b_Di_has 2 = .ok (.iload_n 3, 1) := by decide +kernel
theorem d_Di_has_3 : decode b_Di_has 3 = .ok (.aload_n 0, 1) := by decide +kernel
theorem d_Di_has_4 : decode b_Di_has 4 = .ok (.getfield 17, 3) := by decide +kernel
theorem d_Di_has_7 : decode b_Di_has 7 = .ok (.if_icmp .ge 40, 3) := by decide +kernel
theorem d_Di_has_10 : decode b_Di_has 10 = .ok (.aload_n 0, 1) := by decide +kernel
theorem d_Di_has_11 : decode b_Di_has 11 = .ok (.getfield 11, 3) := by decide +kernel
theorem d_Di_has_14 : decode b_Di_has 14 = .ok (.iload_n 3, 1) := by decide +kernel
theorem d_Di_has_15 : decode b_Di_has 15 = .ok (.aaload, 1) := by decide +kernel
theorem d_Di_has_16 : decode b_Di_has 16 = .ok (.getfield 60, 3) := by decide +kernel
theorem d_Di_has_19 : decode b_Di_has 19 = .ok (.iload_n 1, 1) := by decide +kernel
theorem d_Di_has_20 : decode b_Di_has 20 = .ok (.if_icmp .ne 21, 3) := by decide +kernel
theorem d_Di_has_23 : decode b_Di_has 23 = .ok (.aload_n 0, 1) := by decide +kernel
theorem d_Di_has_24 : decode b_Di_has 24 = .ok (.getfield 11, 3) := by decide +kernel
theorem d_Di_has_27 : decode b_Di_has 27 = .ok (.iload_n 3, 1) := by decide +kernel
theorem d_Di_has_28 : decode b_Di_has 28 = .ok (.aaload, 1) := by decide +kernel
theorem d_Di_has_29 : decode b_Di_has 29 = .ok (.getfield 43, 3) := by decide +kernel
theorem d_Di_has_32 : decode b_Di_has 32 = .ok (.aload_n 2, 1) := by decide +kernel
theorem d_Di_has_33 : decode b_Di_has 33 = .ok (.invokevirtual 63, 3) := by decide +kernel
theorem d_Di_has_36 : decode b_Di_has 36 = .ok (.ifCond .eq 5, 3) := by decide +kernel
theorem d_Di_has_39 : decode b_Di_has 39 = .ok (.iconst 1, 1) := by decide +kernel
theorem d_Di_has_40 : decode b_Di_has 40 = .ok (.ireturn, 1) := by decide +kernel
theorem d_Di_has_41 : decode b_Di_has 41 = .ok (.iinc 3 1, 3) := by decide +kernel
theorem d_Di_has_44 : decode b_Di_has 44 = .ok (.goto (-42), 3) := by decide +kernel
theorem d_Di_has_47 : decode b_Di_has 47 = .ok (.iconst 0, 1) := by decide +kernel
theorem d_Di_has_48 : decode b_Di_has 48 = .ok (.ireturn, 1) := by decide +kernel
theorem d_Di_init_0 : decode b_Di_init 0 = .ok (.aload_n 0, 1) := by decide +kernel
theorem d_Di_init_1 : decode b_Di_init 1 = .ok (.invokespecial 3, 3) := by decide +kernel
theorem d_Di_init_4 : decode b_Di_init 4 = .ok (.aload_n 0, 1) := by decide +kernel
theorem d_Di_init_5 : decode b_Di_init 5 = .ok (.bipush 40, 2) := by decide +kernel
theorem d_Di_init_7 : decode b_Di_init 7 = .ok (.anewarray 9, 3) := by decide +kernel
theorem d_Di_init_10 : decode b_Di_init 10 = .ok (.putfield 11, 3) := by decide +kernel
theorem d_Di_init_13 : decode b_Di_init 13 = .ok (.aload_n 0, 1) := by decide +kernel
theorem d_Di_init_14 : decode b_Di_init 14 = .ok (.iconst 0, 1) := by decide +kernel
theorem d_Di_init_15 : decode b_Di_init 15 = .ok (.putfield 17, 3) := by decide +kernel
theorem d_Di_init_18 : decode b_Di_init 18 = .ok (.return_, 1) := by decide +kernel
theorem d_Di_isGood_0 : decode b_Di_isGood 0 = .ok (.aload_n 1, 1) := by decide +kernel
theorem d_Di_isGood_1 : decode b_Di_isGood 1 = .ok (.iconst 0, 1) := by decide +kernel
theorem d_Di_isGood_2 : decode b_Di_isGood 2 = .ok (.iload_n 2, 1) := by decide +kernel
theorem d_Di_isGood_3 : decode b_Di_isGood 3 = .ok (.invokestatic 54, 3) := by decide +kernel
theorem d_Di_isGood_6 : decode b_Di_isGood 6 = .ok (.ifCond .ne 5, 3) := by decide +kernel
theorem d_Di_isGood_9 : decode b_Di_isGood 9 = .ok (.iconst 0, 1) := by decide +kernel
theorem d_Di_isGood_10 : decode b_Di_isGood 10 = .ok (.ireturn, 1) := by decide +kernel
theorem d_Di_isGood_11 : decode b_Di_isGood 11 = .ok (.iload_n 2, 1) := by decide +kernel
theorem d_Di_isGood_12 : decode b_Di_isGood 12 = .ok (.aload_n 1, 1) := by decide +kernel
theorem d_Di_isGood_13 : decode b_Di_isGood 13 = .ok (.invokevirtual 21, 3) := by decide +kernel
theorem d_Di_isGood_16 : decode b_Di_isGood 16 = .ok (.if_icmp .ne 7, 3) := by decide +kernel
theorem d_Di_isGood_19 : decode b_Di_isGood 19 = .ok (.iconst 1, 1) := by decide +kernel
theorem d_Di_isGood_20 : decode b_Di_isGood 20 = .ok (.goto 4, 3) := by decide +kernel
theorem d_Di_isGood_23 : decode b_Di_isGood 23 = .ok (.iconst 0, 1) := by decide +kernel
theorem d_Di_isGood_24 : decode b_Di_isGood 24 = .ok (.istore_n 3, 1) := by decide +kernel
theorem d_Di_isGood_25 : decode b_Di_isGood 25 = .ok (.iload_n 0, 1) := by decide +kernel
theorem d_Di_isGood_26 : decode b_Di_isGood 26 = .ok (.tableswitch 80 0 3 #[30, 78, 54, 78], 30) := by decide +kernel
theorem d_Di_isGood_56 : decode b_Di_isGood 56 = .ok (.iload_n 3, 1) := by decide +kernel
theorem d_Di_isGood_57 : decode b_Di_isGood 57 = .ok (.ifCond .ne 21, 3) := by decide +kernel
theorem d_Di_isGood_60 : decode b_Di_isGood 60 = .ok (.aload_n 1, 1) := by decide +kernel
theorem d_Di_isGood_61 : decode b_Di_isGood 61 = .ok (.invokevirtual 21, 3) := by decide +kernel
theorem d_Di_isGood_64 : decode b_Di_isGood 64 = .ok (.iload_n 2, 1) := by decide +kernel
theorem d_Di_isGood_65 : decode b_Di_isGood 65 = .ok (.isub, 1) := by decide +kernel
theorem d_Di_isGood_66 : decode b_Di_isGood 66 = .ok (.iconst 1, 1) := by decide +kernel
theorem d_Di_isGood_67 : decode b_Di_isGood 67 = .ok (.isub, 1) := by decide +kernel
theorem d_Di_isGood_68 : decode b_Di_isGood 68 = .ok (.sipush 700, 3) := by decide +kernel
theorem d_Di_isGood_71 : decode b_Di_isGood 71 = .ok (.if_icmp .gt 7, 3) := by decide +kernel
theorem d_Di_isGood_74 : decode b_Di_isGood 74 = .ok (.iconst 1, 1) := by decide +kernel
theorem d_Di_isGood_75 : decode b_Di_isGood 75 = .ok (.goto 4, 3) := by decide +kernel
theorem d_Di_isGood_78 : decode b_Di_isGood 78 = .ok (.iconst 0, 1) := by decide +kernel
theorem d_Di_isGood_79 : decode b_Di_isGood 79 = .ok (.ireturn, 1) := by decide +kernel
theorem d_Di_isGood_80 : decode b_Di_isGood 80 = .ok (.iload_n 3, 1) := by decide +kernel
theorem d_Di_isGood_81 : decode b_Di_isGood 81 = .ok (.ifCond .ne 21, 3) := by decide +kernel
theorem d_Di_isGood_84 : decode b_Di_isGood 84 = .ok (.aload_n 1, 1) := by decide +kernel
theorem d_Di_isGood_85 : decode b_Di_isGood 85 = .ok (.iload_n 2, 1) := by decide +kernel
theorem d_Di_isGood_86 : decode b_Di_isGood 86 = .ok (.iconst 1, 1) := by decide +kernel
theorem d_Di_isGood_87 : decode b_Di_isGood 87 = .ok (.iadd, 1) := by decide +kernel
theorem d_Di_isGood_88 : decode b_Di_isGood 88 = .ok (.aload_n 1, 1) := by decide +kernel
theorem d_Di_isGood_89 : decode b_Di_isGood 89 = .ok (.invokevirtual 21, 3) := by decide +kernel
theorem d_Di_isGood_92 : decode b_Di_isGood 92 = .ok (.invokestatic 54, 3) := by decide +kernel
theorem d_Di_isGood_95 : decode b_Di_isGood 95 = .ok (.ifCond .eq 7, 3) := by decide +kernel
theorem d_Di_isGood_98 : decode b_Di_isGood 98 = .ok (.iconst 1, 1) := by decide +kernel
theorem d_Di_isGood_99 : decode b_Di_isGood 99 = .ok (.goto 4, 3) := by decide +kernel
theorem d_Di_isGood_102 : decode b_Di_isGood 102 = .ok (.iconst 0, 1) := by decide +kernel
theorem d_Di_isGood_103 : decode b_Di_isGood 103 = .ok (.ireturn, 1) := by decide +kernel
theorem d_Di_isGood_104 : decode b_Di_isGood 104 = .ok (.iload_n 3, 1) := by decide +kernel
theorem d_Di_isGood_105 : decode b_Di_isGood 105 = .ok (.ireturn, 1) := by decide +kernel
theorem d_Di_isGood_106 : decode b_Di_isGood 106 = .ok (.iconst 0, 1) := by decide +kernel
theorem d_Di_isGood_107 : decode b_Di_isGood 107 = .ok (.ireturn, 1) := by decide +kernel
theorem d_Di_policies_0 : decode b_Di_policies 0 = .ok (.iconst 0, 1) := by decide +kernel
theorem d_Di_policies_1 : decode b_Di_policies 1 = .ok (.istore_n 2, 1) := by decide +kernel
theorem d_Di_policies_2 : decode b_Di_policies 2 = .ok (.iconst 0, 1) := by decide +kernel
theorem d_Di_policies_3 : decode b_Di_policies 3 = .ok (.istore_n 3, 1) := by decide +kernel
theorem d_Di_policies_4 : decode b_Di_policies 4 = .ok (.iload_n 3, 1) := by decide +kernel
theorem d_Di_policies_5 : decode b_Di_policies 5 = .ok (.aload_n 0, 1) := by decide +kernel
theorem d_Di_policies_6 : decode b_Di_policies 6 = .ok (.getfield 17, 3) := by decide +kernel
theorem d_Di_policies_9 : decode b_Di_policies 9 = .ok (.if_icmp .ge 25, 3) := by decide +kernel
theorem d_Di_policies_12 : decode b_Di_policies 12 = .ok (.aload_n 0, 1) := by decide +kernel
theorem d_Di_policies_13 : decode b_Di_policies 13 = .ok (.getfield 11, 3) := by decide +kernel
theorem d_Di_policies_16 : decode b_Di_policies 16 = .ok (.iload_n 3, 1) := by decide +kernel
theorem d_Di_policies_17 : decode b_Di_policies 17 = .ok (.aaload, 1) := by decide +kernel
theorem d_Di_policies_18 : decode b_Di_policies 18 = .ok (.aload_n 1, 1) := by decide +kernel
theorem d_Di_policies_19 : decode b_Di_policies 19 = .ok (.invokevirtual 67, 3) := by decide +kernel
theorem d_Di_policies_22 : decode b_Di_policies 22 = .ok (.ifCond .eq 6, 3) := by decide +kernel
theorem d_Di_policies_25 : decode b_Di_policies 25 = .ok (.iinc 2 1, 3) := by decide +kernel
theorem d_Di_policies_28 : decode b_Di_policies 28 = .ok (.iinc 3 1, 3) := by decide +kernel
theorem d_Di_policies_31 : decode b_Di_policies 31 = .ok (.goto (-27), 3) := by decide +kernel
theorem d_Di_policies_34 : decode b_Di_policies 34 = .ok (.iload_n 2, 1) := by decide +kernel
theorem d_Di_policies_35 : decode b_Di_policies 35 = .ok (.ireturn, 1) := by decide +kernel
theorem d_Di_policy_0 : decode b_Di_policy 0 = .ok (.iconst 0, 1) := by decide +kernel
theorem d_Di_policy_1 : decode b_Di_policy 1 = .ok (.istore_n 2, 1) := by decide +kernel
theorem d_Di_policy_2 : decode b_Di_policy 2 = .ok (.iload_n 2, 1) := by decide +kernel
theorem d_Di_policy_3 : decode b_Di_policy 3 = .ok (.aload_n 0, 1) := by decide +kernel
theorem d_Di_policy_4 : decode b_Di_policy 4 = .ok (.getfield 17, 3) := by decide +kernel
theorem d_Di_policy_7 : decode b_Di_policy 7 = .ok (.if_icmp .ge 32, 3) := by decide +kernel
theorem d_Di_policy_10 : decode b_Di_policy 10 = .ok (.aload_n 0, 1) := by decide +kernel
theorem d_Di_policy_11 : decode b_Di_policy 11 = .ok (.getfield 11, 3) := by decide +kernel
theorem d_Di_policy_14 : decode b_Di_policy 14 = .ok (.iload_n 2, 1) := by decide +kernel
theorem d_Di_policy_15 : decode b_Di_policy 15 = .ok (.aaload, 1) := by decide +kernel
theorem d_Di_policy_16 : decode b_Di_policy 16 = .ok (.aload_n 1, 1) := by decide +kernel
theorem d_Di_policy_17 : decode b_Di_policy 17 = .ok (.invokevirtual 67, 3) := by decide +kernel
theorem d_Di_policy_20 : decode b_Di_policy 20 = .ok (.ifCond .eq 13, 3) := by decide +kernel
theorem d_Di_policy_23 : decode b_Di_policy 23 = .ok (.aload_n 0, 1) := by decide +kernel
theorem d_Di_policy_24 : decode b_Di_policy 24 = .ok (.getfield 11, 3) := by decide +kernel
theorem d_Di_policy_27 : decode b_Di_policy 27 = .ok (.iload_n 2, 1) := by decide +kernel
theorem d_Di_policy_28 : decode b_Di_policy 28 = .ok (.aaload, 1) := by decide +kernel
theorem d_Di_policy_29 : decode b_Di_policy 29 = .ok (.getfield 51, 3) := by decide +kernel
theorem d_Di_policy_32 : decode b_Di_policy 32 = .ok (.areturn, 1) := by decide +kernel
theorem d_Di_policy_33 : decode b_Di_policy 33 = .ok (.iinc 2 1, 3) := by decide +kernel
theorem d_Di_policy_36 : decode b_Di_policy 36 = .ok (.goto (-34), 3) := by decide +kernel
theorem d_Di_policy_39 : decode b_Di_policy 39 = .ok (.aconst_null, 1) := by decide +kernel
theorem d_Di_policy_40 : decode b_Di_policy 40 = .ok (.areturn, 1) := by decide +kernel
theorem d_Di_reaches_0 : decode b_Di_reaches 0 = .ok (.iconst 0, 1) := by decide +kernel
theorem d_Di_reaches_1 : decode b_Di_reaches 1 = .ok (.istore 4, 2) := by decide +kernel
theorem d_Di_reaches_3 : decode b_Di_reaches 3 = .ok (.iload 4, 2) := by decide +kernel
theorem d_Di_reaches_5 : decode b_Di_reaches 5 = .ok (.aload_n 0, 1) := by decide +kernel
theorem d_Di_reaches_6 : decode b_Di_reaches 6 = .ok (.getfield 17, 3) := by decide +kernel
theorem d_Di_reaches_9 : decode b_Di_reaches 9 = .ok (.if_icmp .ge 54, 3) := by decide +kernel
theorem d_Di_reaches_12 : decode b_Di_reaches 12 = .ok (.aload_n 0, 1) := by decide +kernel
theorem d_Di_reaches_13 : decode b_Di_reaches 13 = .ok (.getfield 11, 3) := by decide +kernel
theorem d_Di_reaches_16 : decode b_Di_reaches 16 = .ok (.iload 4, 2) := by decide +kernel
theorem d_Di_reaches_18 : decode b_Di_reaches 18 = .ok (.aaload, 1) := by decide +kernel
theorem d_Di_reaches_19 : decode b_Di_reaches 19 = .ok (.astore 5, 2) := by decide +kernel
theorem d_Di_reaches_21 : decode b_Di_reaches 21 = .ok (.aload 5, 2) := by decide +kernel
theorem d_Di_reaches_23 : decode b_Di_reaches 23 = .ok (.getfield 60, 3) := by decide +kernel
theorem d_Di_reaches_26 : decode b_Di_reaches 26 = .ok (.iconst 1, 1) := by decide +kernel
theorem d_Di_reaches_27 : decode b_Di_reaches 27 = .ok (.if_icmp .ne 30, 3) := by decide +kernel
theorem d_Di_reaches_30 : decode b_Di_reaches 30 = .ok (.aload 5, 2) := by decide +kernel
theorem d_Di_reaches_32 : decode b_Di_reaches 32 = .ok (.getfield 70, 3) := by decide +kernel
theorem d_Di_reaches_35 : decode b_Di_reaches 35 = .ok (.iload_n 2, 1) := by decide +kernel
theorem d_Di_reaches_36 : decode b_Di_reaches 36 = .ok (.iload_n 3, 1) := by decide +kernel
theorem d_Di_reaches_37 : decode b_Di_reaches 37 = .ok (.invokestatic 73, 3) := by decide +kernel
theorem d_Di_reaches_40 : decode b_Di_reaches 40 = .ok (.ifCond .eq 17, 3) := by decide +kernel
theorem d_Di_reaches_43 : decode b_Di_reaches 43 = .ok (.aload 5, 2) := by decide +kernel
theorem d_Di_reaches_45 : decode b_Di_reaches 45 = .ok (.getfield 43, 3) := by decide +kernel
theorem d_Di_reaches_48 : decode b_Di_reaches 48 = .ok (.aload_n 1, 1) := by decide +kernel
theorem d_Di_reaches_49 : decode b_Di_reaches 49 = .ok (.invokevirtual 63, 3) := by decide +kernel
theorem d_Di_reaches_52 : decode b_Di_reaches 52 = .ok (.ifCond .eq 5, 3) := by decide +kernel
theorem d_Di_reaches_55 : decode b_Di_reaches 55 = .ok (.iconst 1, 1) := by decide +kernel
theorem d_Di_reaches_56 : decode b_Di_reaches 56 = .ok (.ireturn, 1) := by decide +kernel
theorem d_Di_reaches_57 : decode b_Di_reaches 57 = .ok (.iinc 4 1, 3) := by decide +kernel
theorem d_Di_reaches_60 : decode b_Di_reaches 60 = .ok (.goto (-57), 3) := by decide +kernel
theorem d_Di_reaches_63 : decode b_Di_reaches 63 = .ok (.iconst 0, 1) := by decide +kernel
theorem d_Di_reaches_64 : decode b_Di_reaches 64 = .ok (.ireturn, 1) := by decide +kernel
theorem d_Di_sameBits_0 : decode b_Di_sameBits 0 = .ok (.iload_n 2, 1) := by decide +kernel
theorem d_Di_sameBits_1 : decode b_Di_sameBits 1 = .ok (.ifCond .le 14, 3) := by decide +kernel
theorem d_Di_sameBits_4 : decode b_Di_sameBits 4 = .ok (.iload_n 0, 1) := by decide +kernel
theorem d_Di_sameBits_5 : decode b_Di_sameBits 5 = .ok (.iload_n 1, 1) := by decide +kernel
theorem d_Di_sameBits_6 : decode b_Di_sameBits 6 = .ok (.ixor, 1) := by decide +kernel
theorem d_Di_sameBits_7 : decode b_Di_sameBits 7 = .ok (.bipush 32, 2) := by decide +kernel
theorem d_Di_sameBits_9 : decode b_Di_sameBits 9 = .ok (.iload_n 2, 1) := by decide +kernel
theorem d_Di_sameBits_10 : decode b_Di_sameBits 10 = .ok (.isub, 1) := by decide +kernel
theorem d_Di_sameBits_11 : decode b_Di_sameBits 11 = .ok (.iushr, 1) := by decide +kernel
theorem d_Di_sameBits_12 : decode b_Di_sameBits 12 = .ok (.ifCond .ne 7, 3) := by decide +kernel
theorem d_Di_sameBits_15 : decode b_Di_sameBits 15 = .ok (.iconst 1, 1) := by decide +kernel
theorem d_Di_sameBits_16 : decode b_Di_sameBits 16 = .ok (.goto 4, 3) := by decide +kernel
theorem d_Di_sameBits_19 : decode b_Di_sameBits 19 = .ok (.iconst 0, 1) := by decide +kernel
theorem d_Di_sameBits_20 : decode b_Di_sameBits 20 = .ok (.ireturn, 1) := by decide +kernel
theorem d_Di_size_0 : decode b_Di_size 0 = .ok (.aload_n 0, 1) := by decide +kernel
theorem d_Di_size_1 : decode b_Di_size 1 = .ok (.getfield 17, 3) := by decide +kernel
theorem d_Di_size_4 : decode b_Di_size 4 = .ok (.ireturn, 1) := by decide +kernel
theorem d_Di_take_0 : decode b_Di_take 0 = .ok (.aload_n 3, 1) := by decide +kernel
theorem d_Di_take_1 : decode b_Di_take 1 = .ok (.bipush 32, 2) := by decide +kernel
theorem d_Di_take_3 : decode b_Di_take 3 = .ok (.iconst 0, 1) := by decide +kernel
theorem d_Di_take_4 : decode b_Di_take 4 = .ok (.aload_n 3, 1) := by decide +kernel
theorem d_Di_take_5 : decode b_Di_take 5 = .ok (.invokevirtual 21, 3) := by decide +kernel
theorem d_Di_take_8 : decode b_Di_take 8 = .ok (.invokevirtual 26, 3) := by decide +kernel
theorem d_Di_take_11 : decode b_Di_take 11 = .ok (.istore 4, 2) := by decide +kernel
theorem d_Di_take_13 : decode b_Di_take 13 = .ok (.aload_n 0, 1) := by decide +kernel
theorem d_Di_take_14 : decode b_Di_take 14 = .ok (.getfield 17, 3) := by decide +kernel
theorem d_Di_take_17 : decode b_Di_take 17 = .ok (.aload_n 0, 1) := by decide +kernel
theorem d_Di_take_18 : decode b_Di_take 18 = .ok (.getfield 11, 3) := by decide +kernel
theorem d_Di_take_21 : decode b_Di_take 21 = .ok (.arraylength, 1) := by decide +kernel
theorem d_Di_take_22 : decode b_Di_take 22 = .ok (.if_icmp .ge 13, 3) := by decide +kernel
theorem d_Di_take_25 : decode b_Di_take 25 = .ok (.iload_n 1, 1) := by decide +kernel
theorem d_Di_take_26 : decode b_Di_take 26 = .ok (.aload_n 3, 1) := by decide +kernel
theorem d_Di_take_27 : decode b_Di_take 27 = .ok (.iload 4, 2) := by decide +kernel
theorem d_Di_take_29 : decode b_Di_take 29 = .ok (.invokestatic 30, 3) := by decide +kernel
theorem d_Di_take_32 : decode b_Di_take 32 = .ok (.ifCond .ne 5, 3) := by decide +kernel
theorem d_Di_take_35 : decode b_Di_take 35 = .ok (.iconst 0, 1) := by decide +kernel
theorem d_Di_take_36 : decode b_Di_take 36 = .ok (.ireturn, 1) := by decide +kernel
theorem d_Di_take_37 : decode b_Di_take 37 = .ok (.iload 4, 2) := by decide +kernel
theorem d_Di_take_39 : decode b_Di_take 39 = .ok (.iconst 1, 1) := by decide +kernel
theorem d_Di_take_40 : decode b_Di_take 40 = .ok (.iadd, 1) := by decide +kernel
theorem d_Di_take_41 : decode b_Di_take 41 = .ok (.aload_n 3, 1) := by decide +kernel
theorem d_Di_take_42 : decode b_Di_take 42 = .ok (.invokevirtual 21, 3) := by decide +kernel
theorem d_Di_take_45 : decode b_Di_take 45 = .ok (.invokestatic 34, 3) := by decide +kernel
theorem d_Di_take_48 : decode b_Di_take 48 = .ok (.istore 5, 2) := by decide +kernel
theorem d_Di_take_50 : decode b_Di_take 50 = .ok (.new 9, 3) := by decide +kernel
theorem d_Di_take_53 : decode b_Di_take 53 = .ok (.dup, 1) := by decide +kernel
theorem d_Di_take_54 : decode b_Di_take 54 = .ok (.iload_n 1, 1) := by decide +kernel
theorem d_Di_take_55 : decode b_Di_take 55 = .ok (.iload_n 2, 1) := by decide +kernel
theorem d_Di_take_56 : decode b_Di_take 56 = .ok (.iload 4, 2) := by decide +kernel
theorem d_Di_take_58 : decode b_Di_take 58 = .ok (.aload_n 3, 1) := by decide +kernel
theorem d_Di_take_59 : decode b_Di_take 59 = .ok (.invokevirtual 21, 3) := by decide +kernel
theorem d_Di_take_62 : decode b_Di_take 62 = .ok (.iload 5, 2) := by decide +kernel
theorem d_Di_take_64 : decode b_Di_take 64 = .ok (.isub, 1) := by decide +kernel
theorem d_Di_take_65 : decode b_Di_take 65 = .ok (.invokespecial 40, 3) := by decide +kernel
theorem d_Di_take_68 : decode b_Di_take 68 = .ok (.astore 6, 2) := by decide +kernel
theorem d_Di_take_70 : decode b_Di_take 70 = .ok (.aload 6, 2) := by decide +kernel
theorem d_Di_take_72 : decode b_Di_take 72 = .ok (.getfield 43, 3) := by decide +kernel
theorem d_Di_take_75 : decode b_Di_take 75 = .ok (.aload_n 3, 1) := by decide +kernel
theorem d_Di_take_76 : decode b_Di_take 76 = .ok (.iconst 0, 1) := by decide +kernel
theorem d_Di_take_77 : decode b_Di_take 77 = .ok (.iload 4, 2) := by decide +kernel
theorem d_Di_take_79 : decode b_Di_take 79 = .ok (.invokevirtual 47, 3) := by decide +kernel
theorem d_Di_take_82 : decode b_Di_take 82 = .ok (.aload 6, 2) := by decide +kernel
theorem d_Di_take_84 : decode b_Di_take 84 = .ok (.getfield 51, 3) := by decide +kernel
theorem d_Di_take_87 : decode b_Di_take 87 = .ok (.aload_n 3, 1) := by decide +kernel
theorem d_Di_take_88 : decode b_Di_take 88 = .ok (.iload 5, 2) := by decide +kernel
theorem d_Di_take_90 : decode b_Di_take 90 = .ok (.aload_n 3, 1) := by decide +kernel
theorem d_Di_take_91 : decode b_Di_take 91 = .ok (.invokevirtual 21, 3) := by decide +kernel
theorem d_Di_take_94 : decode b_Di_take 94 = .ok (.invokevirtual 47, 3) := by decide +kernel
theorem d_Di_take_97 : decode b_Di_take 97 = .ok (.aload_n 0, 1) := by decide +kernel
theorem d_Di_take_98 : decode b_Di_take 98 = .ok (.getfield 11, 3) := by decide +kernel
theorem d_Di_take_101 : decode b_Di_take 101 = .ok (.aload_n 0, 1) := by decide +kernel
theorem d_Di_take_102 : decode b_Di_take 102 = .ok (.getfield 17, 3) := by decide +kernel
theorem d_Di_take_105 : decode b_Di_take 105 = .ok (.aload 6, 2) := by decide +kernel
theorem d_Di_take_107 : decode b_Di_take 107 = .ok (.aastore, 1) := by decide +kernel
theorem d_Di_take_108 : decode b_Di_take 108 = .ok (.aload_n 0, 1) := by decide +kernel
theorem d_Di_take_109 : decode b_Di_take 109 = .ok (.dup, 1) := by decide +kernel
theorem d_Di_take_110 : decode b_Di_take 110 = .ok (.getfield 17, 3) := by decide +kernel
theorem d_Di_take_113 : decode b_Di_take 113 = .ok (.iconst 1, 1) := by decide +kernel
theorem d_Di_take_114 : decode b_Di_take 114 = .ok (.iadd, 1) := by decide +kernel
theorem d_Di_take_115 : decode b_Di_take 115 = .ok (.putfield 17, 3) := by decide +kernel
theorem d_Di_take_118 : decode b_Di_take 118 = .ok (.iconst 1, 1) := by decide +kernel
theorem d_Di_take_119 : decode b_Di_take 119 = .ok (.ireturn, 1) := by decide +kernel
theorem d_En_init_0 : decode b_En_init 0 = .ok (.aload_n 0, 1) := by decide +kernel
theorem d_En_init_1 : decode b_En_init 1 = .ok (.invokespecial 3, 3) := by decide +kernel
theorem d_En_init_4 : decode b_En_init 4 = .ok (.aload_n 0, 1) := by decide +kernel
theorem d_En_init_5 : decode b_En_init 5 = .ok (.iload_n 1, 1) := by decide +kernel
theorem d_En_init_6 : decode b_En_init 6 = .ok (.putfield 9, 3) := by decide +kernel
theorem d_En_init_9 : decode b_En_init 9 = .ok (.aload_n 0, 1) := by decide +kernel
theorem d_En_init_10 : decode b_En_init 10 = .ok (.iload_n 2, 1) := by decide +kernel
theorem d_En_init_11 : decode b_En_init 11 = .ok (.putfield 15, 3) := by decide +kernel
theorem d_En_init_14 : decode b_En_init 14 = .ok (.aload_n 0, 1) := by decide +kernel
theorem d_En_init_15 : decode b_En_init 15 = .ok (.new 18, 3) := by decide +kernel
theorem d_En_init_18 : decode b_En_init 18 = .ok (.dup, 1) := by decide +kernel
theorem d_En_init_19 : decode b_En_init 19 = .ok (.iload_n 3, 1) := by decide +kernel
theorem d_En_init_20 : decode b_En_init 20 = .ok (.invokespecial 20, 3) := by decide +kernel
theorem d_En_init_23 : decode b_En_init 23 = .ok (.putfield 23, 3) := by decide +kernel
theorem d_En_init_26 : decode b_En_init 26 = .ok (.aload_n 0, 1) := by decide +kernel
theorem d_En_init_27 : decode b_En_init 27 = .ok (.new 18, 3) := by decide +kernel
theorem d_En_init_30 : decode b_En_init 30 = .ok (.dup, 1) := by decide +kernel
theorem d_En_init_31 : decode b_En_init 31 = .ok (.iload 4, 2) := by decide +kernel
theorem d_En_init_33 : decode b_En_init 33 = .ok (.invokespecial 20, 3) := by decide +kernel
theorem d_En_init_36 : decode b_En_init 36 = .ok (.putfield 27, 3) := by decide +kernel
theorem d_En_init_39 : decode b_En_init 39 = .ok (.return_, 1) := by decide +kernel
theorem d_En_isPolicyOf_0 : decode b_En_isPolicyOf 0 = .ok (.aload_n 0, 1) := by decide +kernel
theorem d_En_isPolicyOf_1 : decode b_En_isPolicyOf 1 = .ok (.getfield 27, 3) := by decide +kernel
theorem d_En_isPolicyOf_4 : decode b_En_isPolicyOf 4 = .ok (.ldc 30, 2) := by decide +kernel
theorem d_En_isPolicyOf_6 : decode b_En_isPolicyOf 6 = .ok (.iconst 0, 1) := by decide +kernel
theorem d_En_isPolicyOf_7 : decode b_En_isPolicyOf 7 = .ok (.aload_n 0, 1) := by decide +kernel
theorem d_En_isPolicyOf_8 : decode b_En_isPolicyOf 8 = .ok (.getfield 27, 3) := by decide +kernel
theorem d_En_isPolicyOf_11 : decode b_En_isPolicyOf 11 = .ok (.invokevirtual 32, 3) := by decide +kernel
theorem d_En_isPolicyOf_14 : decode b_En_isPolicyOf 14 = .ok (.invokevirtual 36, 3) := by decide +kernel
theorem d_En_isPolicyOf_17 : decode b_En_isPolicyOf 17 = .ok (.istore_n 2, 1) := by decide +kernel
theorem d_En_isPolicyOf_18 : decode b_En_isPolicyOf 18 = .ok (.aload_n 0, 1) := by decide +kernel
theorem d_En_isPolicyOf_19 : decode b_En_isPolicyOf 19 = .ok (.getfield 27, 3) := by decide +kernel
theorem d_En_isPolicyOf_22 : decode b_En_isPolicyOf 22 = .ok (.invokevirtual 32, 3) := by decide +kernel
theorem d_En_isPolicyOf_25 : decode b_En_isPolicyOf 25 = .ok (.ldc 30, 2) := by decide +kernel
theorem d_En_isPolicyOf_27 : decode b_En_isPolicyOf 27 = .ok (.invokevirtual 40, 3) := by decide +kernel
theorem d_En_isPolicyOf_30 : decode b_En_isPolicyOf 30 = .ok (.if_icmp .eq 20, 3) := by decide +kernel
theorem d_En_isPolicyOf_33 : decode b_En_isPolicyOf 33 = .ok (.aload_n 0, 1) := by decide +kernel
theorem d_En_isPolicyOf_34 : decode b_En_isPolicyOf 34 = .ok (.getfield 27, 3) := by decide +kernel
theorem d_En_isPolicyOf_37 : decode b_En_isPolicyOf 37 = .ok (.ldc 30, 2) := by decide +kernel
theorem d_En_isPolicyOf_39 : decode b_En_isPolicyOf 39 = .ok (.invokevirtual 40, 3) := by decide +kernel
theorem d_En_isPolicyOf_42 : decode b_En_isPolicyOf 42 = .ok (.invokevirtual 45, 3) := by decide +kernel
theorem d_En_isPolicyOf_45 : decode b_En_isPolicyOf 45 = .ok (.bipush 32, 2) := by decide +kernel
theorem d_En_isPolicyOf_47 : decode b_En_isPolicyOf 47 = .ok (.if_icmp .ne 7, 3) := by decide +kernel
theorem d_En_isPolicyOf_50 : decode b_En_isPolicyOf 50 = .ok (.iconst 1, 1) := by decide +kernel
theorem d_En_isPolicyOf_51 : decode b_En_isPolicyOf 51 = .ok (.goto 4, 3) := by decide +kernel
theorem d_En_isPolicyOf_54 : decode b_En_isPolicyOf 54 = .ok (.iconst 0, 1) := by decide +kernel
theorem d_En_isPolicyOf_55 : decode b_En_isPolicyOf 55 = .ok (.istore_n 3, 1) := by decide +kernel
theorem d_En_isPolicyOf_56 : decode b_En_isPolicyOf 56 = .ok (.aload_n 0, 1) := by decide +kernel
theorem d_En_isPolicyOf_57 : decode b_En_isPolicyOf 57 = .ok (.getfield 9, 3) := by decide +kernel
theorem d_En_isPolicyOf_60 : decode b_En_isPolicyOf 60 = .ok (.ifCond .ne 26, 3) := by decide +kernel
theorem d_En_isPolicyOf_63 : decode b_En_isPolicyOf 63 = .ok (.iload_n 2, 1) := by decide +kernel
theorem d_En_isPolicyOf_64 : decode b_En_isPolicyOf 64 = .ok (.ifCond .eq 22, 3) := by decide +kernel
theorem d_En_isPolicyOf_67 : decode b_En_isPolicyOf 67 = .ok (.iload_n 3, 1) := by decide +kernel
theorem d_En_isPolicyOf_68 : decode b_En_isPolicyOf 68 = .ok (.ifCond .eq 18, 3) := by decide +kernel
theorem d_En_isPolicyOf_71 : decode b_En_isPolicyOf 71 = .ok (.aload_n 0, 1) := by decide +kernel
theorem d_En_isPolicyOf_72 : decode b_En_isPolicyOf 72 = .ok (.getfield 23, 3) := by decide +kernel
theorem d_En_isPolicyOf_75 : decode b_En_isPolicyOf 75 = .ok (.aload_n 1, 1) := by decide +kernel
theorem d_En_isPolicyOf_76 : decode b_En_isPolicyOf 76 = .ok (.invokevirtual 49, 3) := by decide +kernel
theorem d_En_isPolicyOf_79 : decode b_En_isPolicyOf 79 = .ok (.ifCond .eq 7, 3) := by decide +kernel
theorem d_En_isPolicyOf_82 : decode b_En_isPolicyOf 82 = .ok (.iconst 1, 1) := by decide +kernel
theorem d_En_isPolicyOf_83 : decode b_En_isPolicyOf 83 = .ok (.goto 4, 3) := by decide +kernel
theorem d_En_isPolicyOf_86 : decode b_En_isPolicyOf 86 = .ok (.iconst 0, 1) := by decide +kernel
theorem d_En_isPolicyOf_87 : decode b_En_isPolicyOf 87 = .ok (.ireturn, 1) := by decide +kernel
end
section
set_option maxHeartbeats 4000000 in
set_option maxRecDepth 100000 in
theorem c_Di_size {l : Launch} {D : Dg} {b0 : Nat} {M : Mp} {a : Nat} {es : List Ent} (h_Dir_a : IsDir D M a es) : OkP l D b0 1 y_Di_size b_Di_size 1 (some .int) M [.ref a] (vI (es.length : Int)) := by
  refine Ok_of rfl (Nat.le_of_ble_eq_true rfl) (fun E hC hQ hl hD hB hN hR => ?_)
  subst hl hD hB
  obtain ⟨ar_1, f_2, h_3, h_4, h_5, h_6⟩ := id h_Dir_a
  show G E M 0 0 [(0, .ref a)] [] 0
  refine G_aload_n hC 0 rfl rfl d_Di_size_0 ?_
  refine G_get hC fl_Di_17 h_3 rfl d_Di_size_1 ?_
  exact G_iretP hC hQ d_Di_size_4 rfl

set_option maxHeartbeats 4000000 in
set_option maxRecDepth 100000 in
theorem c_Di_has {l : Launch} {D : Dg} {b0 : Nat} {M : Mp} {a : Nat} {sort : Int} {o : Nat} {es : List Ent} {t : Nat} {lim : Int} {b : Bv} {B : Bool} (h_Dir_a : IsDir D M a es) (h_B_o : IsB D M o t lim b) (hs : -2147483648 ≤ sort ∧ sort ≤ 2147483647) (hr : hasD es sort b.2 = B) : OkP l D b0 2 y_Di_has b_Di_has 4 (some .boolean) M [.ref a, vI sort, .ref o] (vI (b2i B)) := by
  refine Ok_of rfl (Nat.le_of_ble_eq_true rfl) (fun E hC hQ hl hD hB hN hR => ?_)
  subst hl hD hB
  have hD9 := h_Dir_a.len
  obtain ⟨ar_1, f_2, h_3, h_4, h_5, h_6⟩ := id h_Dir_a
  unfold hasD at hr
  show G E M 0 0 [(0, .ref a), (1, vI sort), (2, .ref o)] [] 0
  refine G_iconst (i := 0) hC d_Di_has_0 ?_
  refine G_istore_n (lv' := [(3, vI 0), (0, .ref a), (1, vI sort), (2, .ref o)]) hC rfl (by rw [hN]; decide) rfl d_Di_has_1 ?_
  have L2 : ∀ (N : Nat) (k : Int), ((es.length : Int) - k).toNat < N → (0 ≤ k ∧ k ≤ es.length) → ((es.drop k.toNat).any (isD sort b.2) = B) → G E M 0 0 [(0, .ref a), (1, vI sort), (2, .ref o), (3, vI k)] [] 2 := by
    intro N
    induction N with
    | zero => intro k hN2 hk hf; exact absurd hN2 (Nat.not_lt_zero _)
    | succ N ih2 =>
      intro k hN2 hk hf
      refine G_iload_n hC 3 rfl rfl d_Di_has_2 ?_
      refine G_aload_n hC 0 rfl rfl d_Di_has_3 ?_
      refine G_get hC fl_Di_17 h_3 rfl d_Di_has_4 ?_
      refine G_icmp_ge hC 47 (by omega) (by omega) (by decide) d_Di_has_7 (fun c_7 => ?_) (fun c_7 => ?_)
      · refine G_iconst (i := 0) hC d_Di_has_47 ?_
        exact G_zretP hC hQ d_Di_has_48 (b2i_f (by rw [List.drop_eq_nil_of_le (by omega)] at hf; exact hf.symm))
      · refine G_aload_n hC 0 rfl rfl d_Di_has_10 ?_
        refine G_get hC fl_Di_11 h_3 rfl d_Di_has_11 ?_
        refine G_iload_n hC 3 rfl rfl d_Di_has_14 ?_
        obtain ⟨x_8, hx_9, hx_10⟩ := get_of (es := es) (k := k) (by omega)
        obtain ⟨e_11, he_12, he_13⟩ := h_6 _ x_8 hx_9
        obtain ⟨nm_14, vl_15, li_16, li_17, bn_18, bv_19, h_20, h_21, h_22, h_23, h_24, h_25, h_26⟩ := id he_13
        refine G_aald hC h_4 rfl (by omega) (by omega) (by rw [he_12]) d_Di_has_15 ?_
        refine G_get hC fl_Di_60 h_20 rfl d_Di_has_16 ?_
        refine G_iload_n hC 1 rfl rfl d_Di_has_19 ?_
        refine G_icmp_ne hC 41 (by omega) (by omega) (by decide) d_Di_has_20 (fun c_27 => ?_) (fun c_27 => ?_)
        · refine G_iinc (lv' := [(3, vI (k + 1)), (0, .ref a), (1, vI sort), (2, .ref o)]) hC 3 rfl (by rw [hN]; decide) rfl d_Di_has_41 ?_
          refine G_goto hC 2 (by decide) d_Di_has_44 ?_
          refine G_lv [1, 2, 3, 0] rfl ?_
          exact ih2 (k + 1) (by omega) (by omega) (by rw [hx_10, List.any_cons, isD_no (fun z => c_27 z.1), Bool.false_or] at hf; exact hf)
        · refine G_aload_n hC 0 rfl rfl d_Di_has_23 ?_
          refine G_get hC fl_Di_11 h_3 rfl d_Di_has_24 ?_
          refine G_iload_n hC 3 rfl rfl d_Di_has_27 ?_
          refine G_aald hC h_4 rfl (by omega) (by omega) (by rw [he_12]) d_Di_has_28 ?_
          refine G_get hC fl_Di_43 h_20 rfl d_Di_has_29 ?_
          refine G_aload_n hC 2 rfl rfl d_Di_has_32 ?_
          refine G_pV (rest := []) hC hR (c_By_same h_21 h_B_o) cv_Di_63 h_21.obj (by decide) (by omega) (by omega) rfl rfl (Nat.le_of_ble_eq_true rfl) d_Di_has_33 ?_
          refine G_if_eq hC 41 (by have := b2i_rng (decide (bn_18.2 = b.2)); omega) (by decide) d_Di_has_36 (fun c_28 => ?_) (fun c_28 => ?_)
          · have c_28 := b2i_eq0.mp c_28
            have c_28 := of_decide_eq_false c_28
            refine G_iinc (lv' := [(3, vI (k + 1)), (0, .ref a), (1, vI sort), (2, .ref o)]) hC 3 rfl (by rw [hN]; decide) rfl d_Di_has_41 ?_
            refine G_goto hC 2 (by decide) d_Di_has_44 ?_
            refine G_lv [1, 2, 3, 0] rfl ?_
            exact ih2 (k + 1) (by omega) (by omega) (by rw [hx_10, List.any_cons, isD_no (fun z => c_28 (h_23.trans z.2)), Bool.false_or] at hf; exact hf)
          · have c_28 := b2i_ne0.mp c_28
            have c_28 := of_decide_eq_true c_28
            refine G_iconst (i := 1) hC d_Di_has_39 ?_
            exact G_zretP hC hQ d_Di_has_40 (b2i_t (by rw [hx_10, List.any_cons, isD_yes ⟨c_27, h_23.symm.trans c_28⟩, Bool.true_or] at hf; exact hf.symm))
  refine G_lv [1, 2, 3, 0] rfl ?_
  exact L2 _ 0 (Nat.lt_succ_self _) (by omega) hr

set_option maxHeartbeats 4000000 in
set_option maxRecDepth 100000 in
theorem c_En_isPolicyOf {l : Launch} {D : Dg} {b0 : Nat} {M : Mp} {a : Nat} {o : Nat} {te : Nat} {x : Ent} {t : Nat} {lim : Int} {b : Bv} (h_E_a : IsE D M a te x) (h_B_o : IsB D M o t lim b) : OkP l D b0 6 y_En_isPolicyOf b_En_isPolicyOf 4 (some .boolean) M [.ref a, .ref o] (vI (b2i (isP b.2 x))) := by
  refine Ok_of rfl (Nat.le_of_ble_eq_true rfl) (fun E hC hQ hl hD hB hN hR => ?_)
  subst hl hD hB
  obtain ⟨nm_1, vl_2, li_3, li_4, bn_5, bv_6, h_7, h_8, h_9, h_10, h_11, h_12, h_13⟩ := id h_E_a
  have hv9 := h_9.len
  show G E M 0 0 [(0, .ref a), (1, .ref o)] [] 0
  refine G_aload_n hC 0 rfl rfl d_En_isPolicyOf_0 ?_
  refine G_get hC fl_En_27 h_7 rfl d_En_isPolicyOf_1 ?_
  refine G_ldcS (tx := "v=spf1") (i := 0) hC (by decide) d_En_isPolicyOf_4 ?_
  refine G_iconst (i := 0) hC d_En_isPolicyOf_6 ?_
  refine G_aload_n hC 0 rfl rfl d_En_isPolicyOf_7 ?_
  refine G_get hC fl_En_27 h_7 rfl d_En_isPolicyOf_8 ?_
  refine G_pV (rest := [vI 0, .ref ((eD E).2.2.1 0), .ref vl_2]) hC hR (c_By_size h_9) cv_En_32 h_9.obj (by decide) (by omega) (by omega) rfl rfl (Nat.le_of_ble_eq_true rfl) d_En_isPolicyOf_11 ?_
  have g_14 := h_9.len
  refine G_pV (rest := []) hC hR (c_By_has h_9 (by decide) (by omega) (by omega)) cv_En_36 h_9.obj (by decide) (by omega) (by omega) rfl rfl (Nat.le_of_ble_eq_true rfl) d_En_isPolicyOf_14 ?_
  refine G_istore_n (lv' := [(2, vI (b2i (hasS bv_6.2 (wrd 0) 0 (bv_6.2.length : Int)))), (0, .ref a), (1, .ref o)]) hC rfl (by rw [hN]; decide) rfl d_En_isPolicyOf_17 ?_
  refine G_aload_n hC 1 rfl rfl d_En_isPolicyOf_18 ?_
  refine G_get hC fl_En_27 h_7 rfl d_En_isPolicyOf_19 ?_
  refine G_pV (rest := []) hC hR (c_By_size h_9) cv_En_32 h_9.obj (by decide) (by omega) (by omega) rfl rfl (Nat.le_of_ble_eq_true rfl) d_En_isPolicyOf_22 ?_
  have g_15 := h_9.len
  refine G_ldcS (tx := "v=spf1") (i := 0) hC (by decide) d_En_isPolicyOf_25 ?_
  refine G_pT (rest := [vI (bv_6.2.length : Int)]) hC hR (c_Str_length (by decide)) ct_En_40 (by decide) (by decide) (by omega) (by omega) rfl rfl (Nat.le_of_ble_eq_true rfl) d_En_isPolicyOf_27 ?_
  have g_16 := wrd_all 0 (by decide)
  refine G_icmp_eq hC 50 (by omega) (by omega) (by decide) d_En_isPolicyOf_30 (fun c_17 => ?_) (fun c_17 => ?_)
  · refine G_iconst (i := 1) hC d_En_isPolicyOf_50 ?_
    refine G_goto hC 55 (by decide) d_En_isPolicyOf_51 ?_
    refine G_istore_n (lv' := [(3, vI 1), (2, vI (b2i (hasS bv_6.2 (wrd 0) 0 (bv_6.2.length : Int)))), (0, .ref a), (1, .ref o)]) hC rfl (by rw [hN]; decide) rfl d_En_isPolicyOf_55 ?_
    refine G_aload_n hC 2 rfl rfl d_En_isPolicyOf_56 ?_
    refine G_get hC fl_En_9 h_7 rfl d_En_isPolicyOf_57 ?_
    refine G_if_ne hC 86 (by omega) (by decide) d_En_isPolicyOf_60 (fun c_18 => ?_) (fun c_18 => ?_)
    · refine G_iconst (i := 0) hC d_En_isPolicyOf_86 ?_
      exact G_zretP hC hQ d_En_isPolicyOf_87 (b2i_f (by unfold isP recP; rw [← h_11, ← h_10]; exact decide_eq_false (fun z => by obtain ⟨z1, ⟨z2, z3⟩, z4⟩ := z; first | omega | exact absurd z4 c_18 | (rw [z2] at c_18; cases c_18))))
    · refine G_iload_n hC 1 rfl rfl d_En_isPolicyOf_63 ?_
      refine G_if_eq hC 86 (by have := b2i_rng (hasS bv_6.2 (wrd 0) 0 (bv_6.2.length : Int)); omega) (by decide) d_En_isPolicyOf_64 (fun c_19 => ?_) (fun c_19 => ?_)
      · have c_19 := b2i_eq0.mp c_19
        refine G_iconst (i := 0) hC d_En_isPolicyOf_86 ?_
        exact G_zretP hC hQ d_En_isPolicyOf_87 (b2i_f (by unfold isP recP; rw [← h_11, ← h_10]; exact decide_eq_false (fun z => by obtain ⟨z1, ⟨z2, z3⟩, z4⟩ := z; first | omega | exact absurd z4 c_19 | (rw [z2] at c_19; cases c_19))))
      · have c_19 := b2i_ne0.mp c_19
        refine G_iload_n hC 0 rfl rfl d_En_isPolicyOf_67 ?_
        refine G_if_eq hC 86 (by decide) (by decide) d_En_isPolicyOf_68 (fun c_20 => ?_) (fun c_20 => ?_)
        · exact (show False from by omega).elim
        · refine G_aload_n hC 2 rfl rfl d_En_isPolicyOf_71 ?_
          refine G_get hC fl_En_23 h_7 rfl d_En_isPolicyOf_72 ?_
          refine G_aload_n hC 3 rfl rfl d_En_isPolicyOf_75 ?_
          refine G_pV (rest := []) hC hR (c_By_same h_8 h_B_o) cv_En_49 h_8.obj (by decide) (by omega) (by omega) rfl rfl (Nat.le_of_ble_eq_true rfl) d_En_isPolicyOf_76 ?_
          refine G_if_eq hC 86 (by have := b2i_rng (decide (bn_5.2 = b.2)); omega) (by decide) d_En_isPolicyOf_79 (fun c_21 => ?_) (fun c_21 => ?_)
          · have c_21 := b2i_eq0.mp c_21
            have c_21 := of_decide_eq_false c_21
            refine G_iconst (i := 0) hC d_En_isPolicyOf_86 ?_
            exact G_zretP hC hQ d_En_isPolicyOf_87 (b2i_f (by unfold isP recP; rw [← h_11, ← h_10]; exact decide_eq_false (fun z => by obtain ⟨z1, ⟨z2, z3⟩, z4⟩ := z; first | omega | exact absurd z4 c_21 | (rw [z2] at c_21; cases c_21))))
          · have c_21 := b2i_ne0.mp c_21
            have c_21 := of_decide_eq_true c_21
            refine G_iconst (i := 1) hC d_En_isPolicyOf_82 ?_
            refine G_goto hC 87 (by decide) d_En_isPolicyOf_83 ?_
            exact G_zretP hC hQ d_En_isPolicyOf_87 (b2i_t (by unfold isP recP; rw [← h_11, ← h_10]; exact decide_eq_true ⟨c_18, ⟨c_19, by omega⟩, c_21⟩))
  · refine G_aload_n hC 1 rfl rfl d_En_isPolicyOf_33 ?_
    refine G_get hC fl_En_27 h_7 rfl d_En_isPolicyOf_34 ?_
    refine G_ldcS (tx := "v=spf1") (i := 0) hC (by decide) d_En_isPolicyOf_37 ?_
    refine G_pT (rest := [.ref vl_2]) hC hR (c_Str_length (by decide)) ct_En_40 (by decide) (by decide) (by omega) (by omega) rfl rfl (Nat.le_of_ble_eq_true rfl) d_En_isPolicyOf_39 ?_
    have g_22 := wrd_all 0 (by decide)
    refine G_pV (rest := []) hC hR (c_By_at h_9 (by omega)) cv_En_45 h_9.obj (by decide) (by omega) (by omega) rfl rfl (Nat.le_of_ble_eq_true rfl) d_En_isPolicyOf_42 ?_
    have g_23 := h_9.at_rng ((wrd 0).length : Int)
    refine G_bipush (j := 32) hC (by decide +kernel) d_En_isPolicyOf_45 ?_
    refine G_icmp_ne hC 54 (by omega) (by decide) (by decide) d_En_isPolicyOf_47 (fun c_24 => ?_) (fun c_24 => ?_)
    · refine G_iconst (i := 0) hC d_En_isPolicyOf_54 ?_
      refine G_istore_n (lv' := [(3, vI 0), (2, vI (b2i (hasS bv_6.2 (wrd 0) 0 (bv_6.2.length : Int)))), (0, .ref a), (1, .ref o)]) hC rfl (by rw [hN]; decide) rfl d_En_isPolicyOf_55 ?_
      refine G_aload_n hC 2 rfl rfl d_En_isPolicyOf_56 ?_
      refine G_get hC fl_En_9 h_7 rfl d_En_isPolicyOf_57 ?_
      refine G_if_ne hC 86 (by omega) (by decide) d_En_isPolicyOf_60 (fun c_25 => ?_) (fun c_25 => ?_)
      · refine G_iconst (i := 0) hC d_En_isPolicyOf_86 ?_
        exact G_zretP hC hQ d_En_isPolicyOf_87 (b2i_f (by unfold isP recP; rw [← h_11, ← h_10]; exact decide_eq_false (fun z => by obtain ⟨z1, ⟨z2, z3⟩, z4⟩ := z; first | omega | exact absurd z4 c_25 | (rw [z2] at c_25; cases c_25))))
      · refine G_iload_n hC 1 rfl rfl d_En_isPolicyOf_63 ?_
        refine G_if_eq hC 86 (by have := b2i_rng (hasS bv_6.2 (wrd 0) 0 (bv_6.2.length : Int)); omega) (by decide) d_En_isPolicyOf_64 (fun c_26 => ?_) (fun c_26 => ?_)
        · have c_26 := b2i_eq0.mp c_26
          refine G_iconst (i := 0) hC d_En_isPolicyOf_86 ?_
          exact G_zretP hC hQ d_En_isPolicyOf_87 (b2i_f (by unfold isP recP; rw [← h_11, ← h_10]; exact decide_eq_false (fun z => by obtain ⟨z1, ⟨z2, z3⟩, z4⟩ := z; first | omega | exact absurd z4 c_26 | (rw [z2] at c_26; cases c_26))))
        · have c_26 := b2i_ne0.mp c_26
          refine G_iload_n hC 0 rfl rfl d_En_isPolicyOf_67 ?_
          refine G_if_eq hC 86 (by decide) (by decide) d_En_isPolicyOf_68 (fun c_27 => ?_) (fun c_27 => ?_)
          · refine G_iconst (i := 0) hC d_En_isPolicyOf_86 ?_
            exact G_zretP hC hQ d_En_isPolicyOf_87 (b2i_f (by unfold isP recP; rw [← h_11, ← h_10]; exact decide_eq_false (fun z => by obtain ⟨z1, ⟨z2, z3⟩, z4⟩ := z; first | omega | exact absurd z4 c_27 | (rw [z2] at c_27; cases c_27))))
          · exact (show False from by omega).elim
    · refine G_iconst (i := 1) hC d_En_isPolicyOf_50 ?_
      refine G_goto hC 55 (by decide) d_En_isPolicyOf_51 ?_
      refine G_istore_n (lv' := [(3, vI 1), (2, vI (b2i (hasS bv_6.2 (wrd 0) 0 (bv_6.2.length : Int)))), (0, .ref a), (1, .ref o)]) hC rfl (by rw [hN]; decide) rfl d_En_isPolicyOf_55 ?_
      refine G_aload_n hC 2 rfl rfl d_En_isPolicyOf_56 ?_
      refine G_get hC fl_En_9 h_7 rfl d_En_isPolicyOf_57 ?_
      refine G_if_ne hC 86 (by omega) (by decide) d_En_isPolicyOf_60 (fun c_28 => ?_) (fun c_28 => ?_)
      · refine G_iconst (i := 0) hC d_En_isPolicyOf_86 ?_
        exact G_zretP hC hQ d_En_isPolicyOf_87 (b2i_f (by unfold isP recP; rw [← h_11, ← h_10]; exact decide_eq_false (fun z => by obtain ⟨z1, ⟨z2, z3⟩, z4⟩ := z; first | omega | exact absurd z4 c_28 | (rw [z2] at c_28; cases c_28))))
      · refine G_iload_n hC 1 rfl rfl d_En_isPolicyOf_63 ?_
        refine G_if_eq hC 86 (by have := b2i_rng (hasS bv_6.2 (wrd 0) 0 (bv_6.2.length : Int)); omega) (by decide) d_En_isPolicyOf_64 (fun c_29 => ?_) (fun c_29 => ?_)
        · have c_29 := b2i_eq0.mp c_29
          refine G_iconst (i := 0) hC d_En_isPolicyOf_86 ?_
          exact G_zretP hC hQ d_En_isPolicyOf_87 (b2i_f (by unfold isP recP; rw [← h_11, ← h_10]; exact decide_eq_false (fun z => by obtain ⟨z1, ⟨z2, z3⟩, z4⟩ := z; first | omega | exact absurd z4 c_29 | (rw [z2] at c_29; cases c_29))))
        · have c_29 := b2i_ne0.mp c_29
          refine G_iload_n hC 0 rfl rfl d_En_isPolicyOf_67 ?_
          refine G_if_eq hC 86 (by decide) (by decide) d_En_isPolicyOf_68 (fun c_30 => ?_) (fun c_30 => ?_)
          · exact (show False from by omega).elim
          · refine G_aload_n hC 2 rfl rfl d_En_isPolicyOf_71 ?_
            refine G_get hC fl_En_23 h_7 rfl d_En_isPolicyOf_72 ?_
            refine G_aload_n hC 3 rfl rfl d_En_isPolicyOf_75 ?_
            refine G_pV (rest := []) hC hR (c_By_same h_8 h_B_o) cv_En_49 h_8.obj (by decide) (by omega) (by omega) rfl rfl (Nat.le_of_ble_eq_true rfl) d_En_isPolicyOf_76 ?_
            refine G_if_eq hC 86 (by have := b2i_rng (decide (bn_5.2 = b.2)); omega) (by decide) d_En_isPolicyOf_79 (fun c_31 => ?_) (fun c_31 => ?_)
            · have c_31 := b2i_eq0.mp c_31
              have c_31 := of_decide_eq_false c_31
              refine G_iconst (i := 0) hC d_En_isPolicyOf_86 ?_
              exact G_zretP hC hQ d_En_isPolicyOf_87 (b2i_f (by unfold isP recP; rw [← h_11, ← h_10]; exact decide_eq_false (fun z => by obtain ⟨z1, ⟨z2, z3⟩, z4⟩ := z; first | omega | exact absurd z4 c_31 | (rw [z2] at c_31; cases c_31))))
            · have c_31 := b2i_ne0.mp c_31
              have c_31 := of_decide_eq_true c_31
              refine G_iconst (i := 1) hC d_En_isPolicyOf_82 ?_
              refine G_goto hC 87 (by decide) d_En_isPolicyOf_83 ?_
              exact G_zretP hC hQ d_En_isPolicyOf_87 (b2i_t (by unfold isP recP; rw [← h_11, ← h_10]; exact decide_eq_true ⟨c_28, ⟨c_29, by omega⟩, c_31⟩))

set_option maxHeartbeats 4000000 in
set_option maxRecDepth 100000 in
theorem c_Di_policies {l : Launch} {D : Dg} {b0 : Nat} {M : Mp} {a : Nat} {o : Nat} {es : List Ent} {t : Nat} {lim : Int} {b : Bv} {z : Int} (h_Dir_a : IsDir D M a es) (h_B_o : IsB D M o t lim b) (hr : ((es.filter (isP b.2)).length : Int) = z) : OkP l D b0 7 y_Di_policies b_Di_policies 4 (some .int) M [.ref a, .ref o] (vI z) := by
  refine Ok_of rfl (Nat.le_of_ble_eq_true rfl) (fun E hC hQ hl hD hB hN hR => ?_)
  subst hl hD hB
  have hD9 := h_Dir_a.len
  obtain ⟨ar_1, f_2, h_3, h_4, h_5, h_6⟩ := id h_Dir_a
  show G E M 0 0 [(0, .ref a), (1, .ref o)] [] 0
  refine G_iconst (i := 0) hC d_Di_policies_0 ?_
  refine G_istore_n (lv' := [(2, vI 0), (0, .ref a), (1, .ref o)]) hC rfl (by rw [hN]; decide) rfl d_Di_policies_1 ?_
  refine G_iconst (i := 0) hC d_Di_policies_2 ?_
  refine G_istore_n (lv' := [(3, vI 0), (2, vI 0), (0, .ref a), (1, .ref o)]) hC rfl (by rw [hN]; decide) rfl d_Di_policies_3 ?_
  have L4 : ∀ (N : Nat) (found : Int) (k : Int), ((es.length : Int) - k).toNat < N → (0 ≤ k ∧ k ≤ es.length ∧ 0 ≤ found ∧ found ≤ k) → (found + (((es.drop k.toNat).filter (isP b.2)).length : Int) = z) → G E M 0 0 [(0, .ref a), (1, .ref o), (2, vI found), (3, vI k)] [] 4 := by
    intro N
    induction N with
    | zero => intro found k hN4 hk hf; exact absurd hN4 (Nat.not_lt_zero _)
    | succ N ih4 =>
      intro found k hN4 hk hf
      refine G_iload_n hC 3 rfl rfl d_Di_policies_4 ?_
      refine G_aload_n hC 0 rfl rfl d_Di_policies_5 ?_
      refine G_get hC fl_Di_17 h_3 rfl d_Di_policies_6 ?_
      refine G_icmp_ge hC 34 (by omega) (by omega) (by decide) d_Di_policies_9 (fun c_7 => ?_) (fun c_7 => ?_)
      · refine G_iload_n hC 2 rfl rfl d_Di_policies_34 ?_
        exact G_iretP hC hQ d_Di_policies_35 (by rw [List.drop_eq_nil_of_le (by omega), List.filter_nil, List.length_nil] at hf; omega)
      · refine G_aload_n hC 0 rfl rfl d_Di_policies_12 ?_
        refine G_get hC fl_Di_11 h_3 rfl d_Di_policies_13 ?_
        refine G_iload_n hC 3 rfl rfl d_Di_policies_16 ?_
        obtain ⟨x_8, hx_9, hx_10⟩ := get_of (es := es) (k := k) (by omega)
        obtain ⟨e_11, he_12, he_13⟩ := h_6 _ x_8 hx_9
        obtain ⟨nm_14, vl_15, li_16, li_17, bn_18, bv_19, h_20, h_21, h_22, h_23, h_24, h_25, h_26⟩ := id he_13
        refine G_aald hC h_4 rfl (by omega) (by omega) (by rw [he_12]) d_Di_policies_17 ?_
        refine G_aload_n hC 1 rfl rfl d_Di_policies_18 ?_
        refine G_pV (rest := []) hC hR (c_En_isPolicyOf he_13 h_B_o) cv_Di_67 ⟨_, _, h_20⟩ (by decide) (by omega) (by omega) rfl rfl (Nat.le_of_ble_eq_true rfl) d_Di_policies_19 ?_
        refine G_if_eq hC 28 (by have := b2i_rng (isP b.2 x_8); omega) (by decide) d_Di_policies_22 (fun c_27 => ?_) (fun c_27 => ?_)
        · have c_27 := b2i_eq0.mp c_27
          refine G_iinc (lv' := [(3, vI (k + 1)), (0, .ref a), (1, .ref o), (2, vI found)]) hC 3 rfl (by rw [hN]; decide) rfl d_Di_policies_28 ?_
          refine G_goto hC 4 (by decide) d_Di_policies_31 ?_
          refine G_lv [1, 2, 3, 0] rfl ?_
          exact ih4 found (k + 1) (by omega) (by omega) (by rw [hx_10, List.filter_cons_of_neg (by rw [c_27]; decide)] at hf; exact hf)
        · have c_27 := b2i_ne0.mp c_27
          refine G_iinc (lv' := [(2, vI (found + 1)), (0, .ref a), (1, .ref o), (3, vI k)]) hC 2 rfl (by rw [hN]; decide) rfl d_Di_policies_25 ?_
          refine G_iinc (lv' := [(3, vI (k + 1)), (2, vI (found + 1)), (0, .ref a), (1, .ref o)]) hC 3 rfl (by rw [hN]; decide) rfl d_Di_policies_28 ?_
          refine G_goto hC 4 (by decide) d_Di_policies_31 ?_
          refine G_lv [2, 3, 1, 0] rfl ?_
          exact ih4 (found + 1) (k + 1) (by omega) (by omega) (by rw [hx_10, List.filter_cons_of_pos c_27, List.length_cons] at hf; omega)
  refine G_lv [2, 3, 1, 0] rfl ?_
  exact L4 _ 0 0 (Nat.lt_succ_self _) (by omega) (by rw [← hr]; show 0 + ((es.filter (isP b.2)).length : Int) = _; omega)

set_option maxHeartbeats 4000000 in
set_option maxRecDepth 100000 in
theorem c_Di_policy0 {l : Launch} {D : Dg} {b0 : Nat} {M : Mp} {a : Nat} {o : Nat} {es : List Ent} {t : Nat} {lim : Int} {b : Bv} (h_Dir_a : IsDir D M a es) (h_B_o : IsB D M o t lim b) (hr : es.filter (isP b.2) = []) : OkP l D b0 7 y_Di_policy b_Di_policy 3 (some (.object "SendPolicy$Bytes")) M [.ref a, .ref o] (.null) := by
  refine Ok_of rfl (Nat.le_of_ble_eq_true rfl) (fun E hC hQ hl hD hB hN hR => ?_)
  subst hl hD hB
  have hD9 := h_Dir_a.len
  obtain ⟨ar_1, f_2, h_3, h_4, h_5, h_6⟩ := id h_Dir_a
  show G E M 0 0 [(0, .ref a), (1, .ref o)] [] 0
  refine G_iconst (i := 0) hC d_Di_policy_0 ?_
  refine G_istore_n (lv' := [(2, vI 0), (0, .ref a), (1, .ref o)]) hC rfl (by rw [hN]; decide) rfl d_Di_policy_1 ?_
  have L2 : ∀ (N : Nat) (k : Int), ((es.length : Int) - k).toNat < N → (0 ≤ k ∧ k ≤ es.length) → ((es.drop k.toNat).filter (isP b.2) = []) → G E M 0 0 [(0, .ref a), (1, .ref o), (2, vI k)] [] 2 := by
    intro N
    induction N with
    | zero => intro k hN2 hk hf; exact absurd hN2 (Nat.not_lt_zero _)
    | succ N ih2 =>
      intro k hN2 hk hf
      refine G_iload_n hC 2 rfl rfl d_Di_policy_2 ?_
      refine G_aload_n hC 0 rfl rfl d_Di_policy_3 ?_
      refine G_get hC fl_Di_17 h_3 rfl d_Di_policy_4 ?_
      refine G_icmp_ge hC 39 (by omega) (by omega) (by decide) d_Di_policy_7 (fun c_7 => ?_) (fun c_7 => ?_)
      · refine G_null hC d_Di_policy_39 ?_
        exact G_aretN hC hQ d_Di_policy_40
      · refine G_aload_n hC 0 rfl rfl d_Di_policy_10 ?_
        refine G_get hC fl_Di_11 h_3 rfl d_Di_policy_11 ?_
        refine G_iload_n hC 2 rfl rfl d_Di_policy_14 ?_
        obtain ⟨x_8, hx_9, hx_10⟩ := get_of (es := es) (k := k) (by omega)
        obtain ⟨e_11, he_12, he_13⟩ := h_6 _ x_8 hx_9
        obtain ⟨nm_14, vl_15, li_16, li_17, bn_18, bv_19, h_20, h_21, h_22, h_23, h_24, h_25, h_26⟩ := id he_13
        refine G_aald hC h_4 rfl (by omega) (by omega) (by rw [he_12]) d_Di_policy_15 ?_
        refine G_aload_n hC 1 rfl rfl d_Di_policy_16 ?_
        refine G_pV (rest := []) hC hR (c_En_isPolicyOf he_13 h_B_o) cv_Di_67 ⟨_, _, h_20⟩ (by decide) (by omega) (by omega) rfl rfl (Nat.le_of_ble_eq_true rfl) d_Di_policy_17 ?_
        refine G_if_eq hC 33 (by have := b2i_rng (isP b.2 x_8); omega) (by decide) d_Di_policy_20 (fun c_27 => ?_) (fun c_27 => ?_)
        · have c_27 := b2i_eq0.mp c_27
          refine G_iinc (lv' := [(2, vI (k + 1)), (0, .ref a), (1, .ref o)]) hC 2 rfl (by rw [hN]; decide) rfl d_Di_policy_33 ?_
          refine G_goto hC 2 (by decide) d_Di_policy_36 ?_
          refine G_lv [1, 2, 0] rfl ?_
          exact ih2 (k + 1) (by omega) (by omega) (by rw [hx_10, List.filter_cons_of_neg (by rw [c_27]; decide)] at hf; exact hf)
        · have c_27 := b2i_ne0.mp c_27
          exact absurd (by rw [hx_10, List.filter_cons_of_pos c_27] at hf; exact hf) (List.cons_ne_nil _ _)
  refine G_lv [1, 2, 0] rfl ?_
  exact L2 _ 0 (Nat.lt_succ_self _) (by omega) hr

set_option maxHeartbeats 4000000 in
set_option maxRecDepth 100000 in
theorem c_Di_policy1 {l : Launch} {D : Dg} {b0 : Nat} {M : Mp} {a : Nat} {o : Nat} {es : List Ent} {t : Nat} {lim : Int} {b : Bv} {x : Ent} {lst : List Ent} (h_Dir_a : IsDir D M a es) (h_B_o : IsB D M o t lim b) (hr : es.filter (isP b.2) = x :: lst) : Ok l D b0 7 y_Di_policy b_Di_policy 3 (some (.object "SendPolicy$Bytes")) M [.ref a, .ref o] 0 0 (fun r M' => ∃ q : Nat, ∃ tq : Nat, ∃ lq : Int, ∃ bq : Bv, r = some (.ref q) ∧ IsB D M' q tq lq bq ∧ (bq.2 = x.2.2.2 ∧ 200 ≤ tq ∧ tq ≤ 398) ∧ M = M') := by
  refine Ok_of rfl (Nat.le_of_ble_eq_true rfl) (fun E hC hQ hl hD hB hN hR => ?_)
  subst hl hD hB
  have hD9 := h_Dir_a.len
  obtain ⟨ar_1, f_2, h_3, h_4, h_5, h_6⟩ := id h_Dir_a
  show G E M 0 0 [(0, .ref a), (1, .ref o)] [] 0
  refine G_iconst (i := 0) hC d_Di_policy_0 ?_
  refine G_istore_n (lv' := [(2, vI 0), (0, .ref a), (1, .ref o)]) hC rfl (by rw [hN]; decide) rfl d_Di_policy_1 ?_
  have L2 : ∀ (N : Nat) (k : Int), ((es.length : Int) - k).toNat < N → (0 ≤ k ∧ k ≤ es.length) → ((es.drop k.toNat).filter (isP b.2) = x :: lst) → G E M 0 0 [(0, .ref a), (1, .ref o), (2, vI k)] [] 2 := by
    intro N
    induction N with
    | zero => intro k hN2 hk hf; exact absurd hN2 (Nat.not_lt_zero _)
    | succ N ih2 =>
      intro k hN2 hk hf
      refine G_iload_n hC 2 rfl rfl d_Di_policy_2 ?_
      refine G_aload_n hC 0 rfl rfl d_Di_policy_3 ?_
      refine G_get hC fl_Di_17 h_3 rfl d_Di_policy_4 ?_
      refine G_icmp_ge hC 39 (by omega) (by omega) (by decide) d_Di_policy_7 (fun c_7 => ?_) (fun c_7 => ?_)
      · exact absurd (by rw [List.drop_eq_nil_of_le (by omega), List.filter_nil] at hf; exact hf.symm) (List.cons_ne_nil _ _)
      · refine G_aload_n hC 0 rfl rfl d_Di_policy_10 ?_
        refine G_get hC fl_Di_11 h_3 rfl d_Di_policy_11 ?_
        refine G_iload_n hC 2 rfl rfl d_Di_policy_14 ?_
        obtain ⟨x_8, hx_9, hx_10⟩ := get_of (es := es) (k := k) (by omega)
        obtain ⟨e_11, he_12, he_13⟩ := h_6 _ x_8 hx_9
        obtain ⟨nm_14, vl_15, li_16, li_17, bn_18, bv_19, h_20, h_21, h_22, h_23, h_24, h_25, h_26⟩ := id he_13
        refine G_aald hC h_4 rfl (by omega) (by omega) (by rw [he_12]) d_Di_policy_15 ?_
        refine G_aload_n hC 1 rfl rfl d_Di_policy_16 ?_
        refine G_pV (rest := []) hC hR (c_En_isPolicyOf he_13 h_B_o) cv_Di_67 ⟨_, _, h_20⟩ (by decide) (by omega) (by omega) rfl rfl (Nat.le_of_ble_eq_true rfl) d_Di_policy_17 ?_
        refine G_if_eq hC 33 (by have := b2i_rng (isP b.2 x_8); omega) (by decide) d_Di_policy_20 (fun c_27 => ?_) (fun c_27 => ?_)
        · have c_27 := b2i_eq0.mp c_27
          refine G_iinc (lv' := [(2, vI (k + 1)), (0, .ref a), (1, .ref o)]) hC 2 rfl (by rw [hN]; decide) rfl d_Di_policy_33 ?_
          refine G_goto hC 2 (by decide) d_Di_policy_36 ?_
          refine G_lv [1, 2, 0] rfl ?_
          exact ih2 (k + 1) (by omega) (by omega) (by rw [hx_10, List.filter_cons_of_neg (by rw [c_27]; decide)] at hf; exact hf)
        · have c_27 := b2i_ne0.mp c_27
          refine G_aload_n hC 0 rfl rfl d_Di_policy_23 ?_
          refine G_get hC fl_Di_11 h_3 rfl d_Di_policy_24 ?_
          refine G_iload_n hC 2 rfl rfl d_Di_policy_27 ?_
          refine G_aald hC h_4 rfl (by omega) (by omega) (by rw [he_12]) d_Di_policy_28 ?_
          refine G_get hC fl_Di_51 h_20 rfl d_Di_policy_29 ?_
          have hx9 : x_8 = x := by rw [hx_10, List.filter_cons_of_pos c_27] at hf; exact (List.cons.inj hf).1
          exact G_areturn hC hQ (Or.inl ⟨_, rfl⟩) (Or.inr ⟨_, rfl⟩) (by omega) (by omega) d_Di_policy_32 ⟨vl_15, _, _, _, rfl, h_22, ⟨by rw [h_24, hx9], by omega⟩, rfl⟩
  refine G_lv [1, 2, 0] rfl ?_
  exact L2 _ 0 (Nat.lt_succ_self _) (by omega) hr

set_option maxHeartbeats 4000000 in
set_option maxRecDepth 100000 in
theorem c_Di_sameBits {l : Launch} {D : Dg} {b0 : Nat} {M : Mp} {a : Int32} {b : Int32} {n : Int} (hn : -100000 ≤ n ∧ n ≤ 100000) : OkP l D b0 1 y_Di_sameBits b_Di_sameBits 3 (some .boolean) M [.int a, .int b, vI n] (vI (b2i (sbS a b n))) := by
  refine Ok_of rfl (Nat.le_of_ble_eq_true rfl) (fun E hC hQ hl hD hB hN hR => ?_)
  subst hl hD hB
  show G E M 0 0 [(0, .int a), (1, .int b), (2, vI n)] [] 0
  refine G_iload_n hC 2 rfl rfl d_Di_sameBits_0 ?_
  refine G_if_le hC 15 (by omega) (by decide) d_Di_sameBits_1 (fun c_1 => ?_) (fun c_1 => ?_)
  · refine G_iconst (i := 1) hC d_Di_sameBits_15 ?_
    refine G_goto hC 20 (by decide) d_Di_sameBits_16 ?_
    exact G_zretP hC hQ d_Di_sameBits_20 (b2i_t (decide_eq_true (by omega)))
  · refine G_iload_n hC 0 rfl rfl d_Di_sameBits_4 ?_
    refine G_iload_n hC 1 rfl rfl d_Di_sameBits_5 ?_
    refine G_ixor hC rfl d_Di_sameBits_6 ?_
    refine G_bipush (j := 32) hC (by decide +kernel) d_Di_sameBits_7 ?_
    refine G_iload_n hC 2 rfl rfl d_Di_sameBits_9 ?_
    refine G_isub hC d_Di_sameBits_10 ?_
    refine G_iushr hC rfl d_Di_sameBits_11 ?_
    refine G_X2I ?_
    have g_3 := zI_rng (((a ^^^ b).toUInt32 >>> ((zI (32 - n)).toUInt32 &&& Int32.toUInt32 31)).toInt32)
    refine G_if_ne hC 19 (by omega) (by decide) d_Di_sameBits_12 (fun c_2 => ?_) (fun c_2 => ?_)
    · refine G_iconst (i := 0) hC d_Di_sameBits_19 ?_
      exact G_zretP hC hQ d_Di_sameBits_20 (b2i_f (decide_eq_false (by omega)))
    · refine G_iconst (i := 1) hC d_Di_sameBits_15 ?_
      refine G_goto hC 20 (by decide) d_Di_sameBits_16 ?_
      exact G_zretP hC hQ d_Di_sameBits_20 (b2i_t (decide_eq_true (by omega)))

set_option maxHeartbeats 4000000 in
set_option maxRecDepth 100000 in
theorem c_Di_reaches {l : Launch} {D : Dg} {b0 : Nat} {M : Mp} {a : Nat} {o : Nat} {ad : Int32} {n : Int} {es : List Ent} {t : Nat} {lim : Int} {b : Bv} {B : Bool} (h_Dir_a : IsDir D M a es) (h_B_o : IsB D M o t lim b) (hn : -100000 ≤ n ∧ n ≤ 100000) (hr : reaD es b.2 ad n = B) : OkP l D b0 2 y_Di_reaches b_Di_reaches 6 (some .boolean) M [.ref a, .ref o, .int ad, vI n] (vI (b2i B)) := by
  refine Ok_of rfl (Nat.le_of_ble_eq_true rfl) (fun E hC hQ hl hD hB hN hR => ?_)
  subst hl hD hB
  have hD9 := h_Dir_a.len
  obtain ⟨ar_1, f_2, h_3, h_4, h_5, h_6⟩ := id h_Dir_a
  unfold reaD at hr
  show G E M 0 0 [(0, .ref a), (1, .ref o), (2, .int ad), (3, vI n)] [] 0
  refine G_iconst (i := 0) hC d_Di_reaches_0 ?_
  refine G_istore (lv' := [(4, vI 0), (0, .ref a), (1, .ref o), (2, .int ad), (3, vI n)]) hC (by rw [hN]; decide) rfl d_Di_reaches_1 ?_
  have L3 : ∀ (N : Nat) (k : Int), ((es.length : Int) - k).toNat < N → (0 ≤ k ∧ k ≤ es.length) → ((es.drop k.toNat).any (reaP b.2 ad n) = B) → G E M 0 0 [(0, .ref a), (1, .ref o), (2, .int ad), (3, vI n), (4, vI k)] [] 3 := by
    intro N
    induction N with
    | zero => intro k hN3 hk hf; exact absurd hN3 (Nat.not_lt_zero _)
    | succ N ih3 =>
      intro k hN3 hk hf
      refine G_iload hC 4 rfl d_Di_reaches_3 ?_
      refine G_aload_n hC 0 rfl rfl d_Di_reaches_5 ?_
      refine G_get hC fl_Di_17 h_3 rfl d_Di_reaches_6 ?_
      refine G_icmp_ge hC 63 (by omega) (by omega) (by decide) d_Di_reaches_9 (fun c_7 => ?_) (fun c_7 => ?_)
      · refine G_iconst (i := 0) hC d_Di_reaches_63 ?_
        exact G_zretP hC hQ d_Di_reaches_64 (b2i_f (by rw [List.drop_eq_nil_of_le (by omega)] at hf; exact hf.symm))
      · refine G_aload_n hC 0 rfl rfl d_Di_reaches_12 ?_
        refine G_get hC fl_Di_11 h_3 rfl d_Di_reaches_13 ?_
        refine G_iload hC 4 rfl d_Di_reaches_16 ?_
        obtain ⟨x_8, hx_9, hx_10⟩ := get_of (es := es) (k := k) (by omega)
        obtain ⟨e_11, he_12, he_13⟩ := h_6 _ x_8 hx_9
        obtain ⟨nm_14, vl_15, li_16, li_17, bn_18, bv_19, h_20, h_21, h_22, h_23, h_24, h_25, h_26⟩ := id he_13
        refine G_aald hC h_4 rfl (by omega) (by omega) (by rw [he_12]) d_Di_reaches_18 ?_
        refine G_astore (lv' := [(5, .ref e_11), (0, .ref a), (1, .ref o), (2, .int ad), (3, vI n), (4, vI k)]) hC (by rw [hN]; decide) rfl d_Di_reaches_19 ?_
        refine G_aload hC 0 rfl d_Di_reaches_21 ?_
        refine G_get hC fl_Di_60 h_20 rfl d_Di_reaches_23 ?_
        refine G_iconst (i := 1) hC d_Di_reaches_26 ?_
        refine G_icmp_ne hC 57 (by omega) (by decide) (by decide) d_Di_reaches_27 (fun c_27 => ?_) (fun c_27 => ?_)
        · refine G_iinc (lv' := [(4, vI (k + 1)), (5, .ref e_11), (0, .ref a), (1, .ref o), (2, .int ad), (3, vI n)]) hC 5 rfl (by rw [hN]; decide) rfl d_Di_reaches_57 ?_
          refine G_goto hC 3 (by decide) d_Di_reaches_60 ?_
          refine G_lv [2, 3, 4, 5, 0] rfl ?_
          exact ih3 (k + 1) (by omega) (by omega) (by rw [hx_10, List.any_cons, reaP_no (fun z => c_27 z.1), Bool.false_or] at hf; exact hf)
        · refine G_aload hC 0 rfl d_Di_reaches_30 ?_
          refine G_get hC fl_Di_70 h_20 rfl d_Di_reaches_32 ?_
          refine G_iload_n hC 3 rfl rfl d_Di_reaches_35 ?_
          refine G_iload_n hC 4 rfl rfl d_Di_reaches_36 ?_
          refine G_pS (rest := []) hC hR (c_Di_sameBits (by omega)) cs_Di_73 (by decide) (by omega) (by omega) rfl rfl (Nat.le_of_ble_eq_true rfl) d_Di_reaches_37 ?_
          refine G_if_eq hC 57 (by have := b2i_rng (sbS x_8.2.1 ad n); omega) (by decide) d_Di_reaches_40 (fun c_28 => ?_) (fun c_28 => ?_)
          · have c_28 := b2i_eq0.mp c_28
            refine G_iinc (lv' := [(4, vI (k + 1)), (5, .ref e_11), (0, .ref a), (1, .ref o), (2, .int ad), (3, vI n)]) hC 5 rfl (by rw [hN]; decide) rfl d_Di_reaches_57 ?_
            refine G_goto hC 3 (by decide) d_Di_reaches_60 ?_
            refine G_lv [2, 3, 4, 5, 0] rfl ?_
            exact ih3 (k + 1) (by omega) (by omega) (by rw [hx_10, List.any_cons, reaP_no (fun z => by rw [z.2.1] at c_28; cases c_28), Bool.false_or] at hf; exact hf)
          · have c_28 := b2i_ne0.mp c_28
            refine G_aload hC 0 rfl d_Di_reaches_43 ?_
            refine G_get hC fl_Di_43 h_20 rfl d_Di_reaches_45 ?_
            refine G_aload_n hC 2 rfl rfl d_Di_reaches_48 ?_
            refine G_pV (rest := []) hC hR (c_By_same h_21 h_B_o) cv_Di_63 h_21.obj (by decide) (by omega) (by omega) rfl rfl (Nat.le_of_ble_eq_true rfl) d_Di_reaches_49 ?_
            refine G_if_eq hC 57 (by have := b2i_rng (decide (bn_18.2 = b.2)); omega) (by decide) d_Di_reaches_52 (fun c_29 => ?_) (fun c_29 => ?_)
            · have c_29 := b2i_eq0.mp c_29
              have c_29 := of_decide_eq_false c_29
              refine G_iinc (lv' := [(4, vI (k + 1)), (5, .ref e_11), (0, .ref a), (1, .ref o), (2, .int ad), (3, vI n)]) hC 5 rfl (by rw [hN]; decide) rfl d_Di_reaches_57 ?_
              refine G_goto hC 3 (by decide) d_Di_reaches_60 ?_
              refine G_lv [2, 3, 4, 5, 0] rfl ?_
              exact ih3 (k + 1) (by omega) (by omega) (by rw [hx_10, List.any_cons, reaP_no (fun z => c_29 (h_23.trans z.2.2)), Bool.false_or] at hf; exact hf)
            · have c_29 := b2i_ne0.mp c_29
              have c_29 := of_decide_eq_true c_29
              refine G_iconst (i := 1) hC d_Di_reaches_55 ?_
              exact G_zretP hC hQ d_Di_reaches_56 (b2i_t (by rw [hx_10, List.any_cons, reaP_yes ⟨c_27, c_28, h_23.symm.trans c_29⟩, Bool.true_or] at hf; exact hf.symm))
  refine G_lv [1, 2, 3, 4, 0] rfl ?_
  exact L3 _ 0 (Nat.lt_succ_self _) (by omega) hr

set_option maxHeartbeats 4000000 in
set_option maxRecDepth 100000 in
theorem c_Di_isGood {l : Launch} {D : Dg} {b0 : Nat} {M : Mp} {sort : Int} {a : Nat} {blank : Int} {t : Nat} {lim : Int} {b : Bv} (h_B_a : IsB D M a t lim b) (hs : -2147483648 ≤ sort ∧ sort ≤ 2147483647) (hb : 0 ≤ blank ∧ blank ≤ b.2.length) : OkP l D b0 4 y_Di_isGood b_Di_isGood 4 (some .boolean) M [vI sort, .ref a, vI blank] (vI (b2i (decide (goodP b.2 sort blank)))) := by
  refine Ok_of rfl (Nat.le_of_ble_eq_true rfl) (fun E hC hQ hl hD hB hN hR => ?_)
  subst hl hD hB
  have hB9 := h_B_a.len
  show G E M 0 0 [(0, vI sort), (1, .ref a), (2, vI blank)] [] 0
  refine G_aload_n hC 1 rfl rfl d_Di_isGood_0 ?_
  refine G_iconst (i := 0) hC d_Di_isGood_1 ?_
  refine G_iload_n hC 2 rfl rfl d_Di_isGood_2 ?_
  refine G_pS (rest := []) hC hR (c_Si_isName h_B_a (by omega) (by omega) rfl) cs_Di_54 (by decide) (by omega) (by omega) rfl rfl (Nat.le_of_ble_eq_true rfl) d_Di_isGood_3 ?_
  refine G_if_ne hC 11 (by have := b2i_rng (nameS b.2 0 blank); omega) (by decide) d_Di_isGood_6 (fun c_1 => ?_) (fun c_1 => ?_)
  · have c_1 := b2i_ne0.mp c_1
    refine G_iload_n hC 2 rfl rfl d_Di_isGood_11 ?_
    refine G_aload_n hC 1 rfl rfl d_Di_isGood_12 ?_
    refine G_pV (rest := [vI blank]) hC hR (c_By_size h_B_a) cv_Di_21 h_B_a.obj (by decide) (by omega) (by omega) rfl rfl (Nat.le_of_ble_eq_true rfl) d_Di_isGood_13 ?_
    have g_2 := h_B_a.len
    refine G_icmp_ne hC 23 (by omega) (by omega) (by decide) d_Di_isGood_16 (fun c_3 => ?_) (fun c_3 => ?_)
    · refine G_iconst (i := 0) hC d_Di_isGood_23 ?_
      refine G_istore_n (lv' := [(3, vI 0), (0, vI sort), (1, .ref a), (2, vI blank)]) hC rfl (by rw [hN]; decide) rfl d_Di_isGood_24 ?_
      refine G_iload_n hC 1 rfl rfl d_Di_isGood_25 ?_
      by_cases c_4 : sort = 0
      · refine G_tabIn 0 56 hC c_4 (by omega) rfl (by decide) d_Di_isGood_26 ?_
        refine G_iload_n hC 0 rfl rfl d_Di_isGood_56 ?_
        refine G_if_ne hC 78 (by decide) (by decide) d_Di_isGood_57 (fun c_5 => ?_) (fun c_5 => ?_)
        · exact (show False from by omega).elim
        · refine G_aload_n hC 2 rfl rfl d_Di_isGood_60 ?_
          refine G_pV (rest := []) hC hR (c_By_size h_B_a) cv_Di_21 h_B_a.obj (by decide) (by omega) (by omega) rfl rfl (Nat.le_of_ble_eq_true rfl) d_Di_isGood_61 ?_
          have g_6 := h_B_a.len
          refine G_iload_n hC 3 rfl rfl d_Di_isGood_64 ?_
          refine G_isub hC d_Di_isGood_65 ?_
          refine G_iconst (i := 1) hC d_Di_isGood_66 ?_
          refine G_isub hC d_Di_isGood_67 ?_
          refine G_sipush (j := 700) hC (by decide +kernel) d_Di_isGood_68 ?_
          refine G_icmp_gt hC 78 (by omega) (by decide) (by decide) d_Di_isGood_71 (fun c_7 => ?_) (fun c_7 => ?_)
          · refine G_iconst (i := 0) hC d_Di_isGood_78 ?_
            exact G_zretP hC hQ d_Di_isGood_79 (b2i_f (decide_eq_false (by unfold goodP; grind)))
          · refine G_iconst (i := 1) hC d_Di_isGood_74 ?_
            refine G_goto hC 79 (by decide) d_Di_isGood_75 ?_
            exact G_zretP hC hQ d_Di_isGood_79 (b2i_t (decide_eq_true (by unfold goodP; grind)))
      by_cases c_8 : sort = 1
      · refine G_tabIn 1 104 hC c_8 (by omega) rfl (by decide) d_Di_isGood_26 ?_
        refine G_iload_n hC 0 rfl rfl d_Di_isGood_104 ?_
        exact G_zretP hC hQ d_Di_isGood_105 (b2i_f (decide_eq_false (by unfold goodP; grind)))
      by_cases c_9 : sort = 2
      · refine G_tabIn 2 80 hC c_9 (by omega) rfl (by decide) d_Di_isGood_26 ?_
        refine G_iload_n hC 0 rfl rfl d_Di_isGood_80 ?_
        refine G_if_ne hC 102 (by decide) (by decide) d_Di_isGood_81 (fun c_10 => ?_) (fun c_10 => ?_)
        · exact (show False from by omega).elim
        · refine G_aload_n hC 2 rfl rfl d_Di_isGood_84 ?_
          refine G_iload_n hC 3 rfl rfl d_Di_isGood_85 ?_
          refine G_iconst (i := 1) hC d_Di_isGood_86 ?_
          refine G_iadd hC d_Di_isGood_87 ?_
          refine G_aload_n hC 2 rfl rfl d_Di_isGood_88 ?_
          refine G_pV (rest := [vI (blank + 1), .ref a]) hC hR (c_By_size h_B_a) cv_Di_21 h_B_a.obj (by decide) (by omega) (by omega) rfl rfl (Nat.le_of_ble_eq_true rfl) d_Di_isGood_89 ?_
          have g_11 := h_B_a.len
          refine G_pS (rest := []) hC hR (c_Si_isName h_B_a (by omega) (by omega) rfl) cs_Di_54 (by decide) (by omega) (by omega) rfl rfl (Nat.le_of_ble_eq_true rfl) d_Di_isGood_92 ?_
          refine G_if_eq hC 102 (by have := b2i_rng (nameS b.2 (blank + 1) (b.2.length : Int)); omega) (by decide) d_Di_isGood_95 (fun c_12 => ?_) (fun c_12 => ?_)
          · have c_12 := b2i_eq0.mp c_12
            refine G_iconst (i := 0) hC d_Di_isGood_102 ?_
            exact G_zretP hC hQ d_Di_isGood_103 (b2i_f (decide_eq_false (by unfold goodP; grind)))
          · have c_12 := b2i_ne0.mp c_12
            refine G_iconst (i := 1) hC d_Di_isGood_98 ?_
            refine G_goto hC 103 (by decide) d_Di_isGood_99 ?_
            exact G_zretP hC hQ d_Di_isGood_103 (b2i_t (decide_eq_true (by unfold goodP; grind)))
      by_cases c_13 : sort = 3
      · refine G_tabIn 3 104 hC c_13 (by omega) rfl (by decide) d_Di_isGood_26 ?_
        refine G_iload_n hC 0 rfl rfl d_Di_isGood_104 ?_
        exact G_zretP hC hQ d_Di_isGood_105 (b2i_f (decide_eq_false (by unfold goodP; grind)))
      refine G_tabOut 106 hC (by omega) (by omega) (by decide) d_Di_isGood_26 ?_
      refine G_iconst (i := 0) hC d_Di_isGood_106 ?_
      exact G_zretP hC hQ d_Di_isGood_107 (b2i_f (decide_eq_false (by unfold goodP; grind)))
    · refine G_iconst (i := 1) hC d_Di_isGood_19 ?_
      refine G_goto hC 24 (by decide) d_Di_isGood_20 ?_
      refine G_istore_n (lv' := [(3, vI 1), (0, vI sort), (1, .ref a), (2, vI blank)]) hC rfl (by rw [hN]; decide) rfl d_Di_isGood_24 ?_
      refine G_iload_n hC 1 rfl rfl d_Di_isGood_25 ?_
      by_cases c_14 : sort = 0
      · refine G_tabIn 0 56 hC c_14 (by omega) rfl (by decide) d_Di_isGood_26 ?_
        refine G_iload_n hC 0 rfl rfl d_Di_isGood_56 ?_
        refine G_if_ne hC 78 (by decide) (by decide) d_Di_isGood_57 (fun c_15 => ?_) (fun c_15 => ?_)
        · refine G_iconst (i := 0) hC d_Di_isGood_78 ?_
          exact G_zretP hC hQ d_Di_isGood_79 (b2i_f (decide_eq_false (by unfold goodP; grind)))
        · exact (show False from by omega).elim
      by_cases c_16 : sort = 1
      · refine G_tabIn 1 104 hC c_16 (by omega) rfl (by decide) d_Di_isGood_26 ?_
        refine G_iload_n hC 0 rfl rfl d_Di_isGood_104 ?_
        exact G_zretP hC hQ d_Di_isGood_105 (b2i_t (decide_eq_true (by unfold goodP; grind)))
      by_cases c_17 : sort = 2
      · refine G_tabIn 2 80 hC c_17 (by omega) rfl (by decide) d_Di_isGood_26 ?_
        refine G_iload_n hC 0 rfl rfl d_Di_isGood_80 ?_
        refine G_if_ne hC 102 (by decide) (by decide) d_Di_isGood_81 (fun c_18 => ?_) (fun c_18 => ?_)
        · refine G_iconst (i := 0) hC d_Di_isGood_102 ?_
          exact G_zretP hC hQ d_Di_isGood_103 (b2i_f (decide_eq_false (by unfold goodP; grind)))
        · exact (show False from by omega).elim
      by_cases c_19 : sort = 3
      · refine G_tabIn 3 104 hC c_19 (by omega) rfl (by decide) d_Di_isGood_26 ?_
        refine G_iload_n hC 0 rfl rfl d_Di_isGood_104 ?_
        exact G_zretP hC hQ d_Di_isGood_105 (b2i_t (decide_eq_true (by unfold goodP; grind)))
      refine G_tabOut 106 hC (by omega) (by omega) (by decide) d_Di_isGood_26 ?_
      refine G_iconst (i := 0) hC d_Di_isGood_106 ?_
      exact G_zretP hC hQ d_Di_isGood_107 (b2i_f (decide_eq_false (by unfold goodP; grind)))
  · have c_1 := b2i_eq0.mp c_1
    refine G_iconst (i := 0) hC d_Di_isGood_9 ?_
    exact G_zretP hC hQ d_Di_isGood_10 (b2i_f (decide_eq_false (by unfold goodP; grind)))

set_option maxHeartbeats 4000000 in
set_option maxRecDepth 100000 in
theorem c_Di_clear {l : Launch} {D : Dg} {b0 : Nat} {M : Mp} {a : Nat} {es : List Ent} (h_Dir_a : IsDir D M a es) : Ok l D b0 1 y_Di_clear b_Di_clear 1 none M [.ref a] 0 0 (fun r M' => r = none ∧ IsDir D M' a ([]) ∧ Fr [6] M M') := by
  refine Ok_of rfl (Nat.le_of_ble_eq_true rfl) (fun E hC hQ hl hD hB hN hR => ?_)
  subst hl hD hB
  obtain ⟨ar_1, f_2, h_3, h_4, h_5, h_6⟩ := id h_Dir_a
  show G E M 0 0 [(0, .ref a)] [] 0
  refine G_aload_n hC 0 rfl rfl d_Di_clear_0 ?_
  refine G_iconst (i := 0) hC d_Di_clear_1 ?_
  refine G_putX (fs' := [.ref ar_1, vI 0]) hC fl_Di_17 ft_Di fw_Di_1 h_3 rfl rfl (Nat.le_of_ble_eq_true rfl) rfl d_Di_clear_2 (fun M_7 h_8 fr_9 => ?_)
  have h_10 := fr_9.at h_4 (by decide)
  exact G_return hC hQ (by omega) (by omega) d_Di_clear_5 ⟨rfl, ⟨_, _, h_8, h_10, by simp, fun j x hj => by simp at hj⟩, (fr_9.up (T := [6]) (by simp))⟩
end
section
/-! TERMS: what one word of a policy says (both sides are held against this) -/
theorem G_xretP {E : Cxt} {cc : ByteArray} {y : MethodName} {M : Mp} {lv : List (Nat × Value)} {pc : Nat} {x : Int32} (hC : Cx E cc y) (hQ : Cr E (some .int) 0 0 (fun r M' => r = some (.int x) ∧ M' = M)) (d : decode cc pc = .ok (.ireturn, 1)) : G E M 0 0 lv [.int x] pc := G_ireturn hC hQ (Nat.le_refl _) (Nat.le_refl _) d ⟨rfl, rfl⟩
def verS (c : Int) : Int := if c = 45 then 3 else if c = 126 then 4 else if c = 63 then 1 else 2
abbrev sgP (c : Int) : Prop := c = 43 ∨ c = 63 ∨ c = 126 ∨ c = 45
def bitsL (xs : List Int) (stop k v : Int) : Option Int :=
  if h : k < stop then (if digP (atS xs k) then bitsL xs stop (k + 1) (v * 10 + atS xs k - 48) else none) else if v ≤ 32 then some v else none
termination_by (stop - k).toNat
decreasing_by all_goals omega
def bitsS (xs : List Int) (q stop : Int) : Option Int := if stop ≤ q ∨ 2 < stop - q then none else bitsL xs stop q 0
/-- four numbers: net so far, the number that is read -/
def quadL (xs : List Int) (stop k dots digits number : Int) (net : Int32) : Option Int32 :=
  if h : k < stop then
    (if digP (atS xs k) ∧ digits < 3 then (if 255 < number * 10 + atS xs k - 48 then none else quadL xs stop (k + 1) dots (digits + 1) (number * 10 + atS xs k - 48) net)
    else if atS xs k = 46 ∧ 0 < digits ∧ dots < 3 then quadL xs stop (k + 1) (dots + 1) 0 0 ((net <<< (zI 8 &&& 31)) ||| zI number)
    else none)
  else if dots = 3 ∧ 0 < digits then some ((net <<< (zI 8 &&& 31)) ||| zI number) else none
termination_by (stop - k).toNat
decreasing_by all_goals omega
/-- as the reference reads four numbers -/
def quadR (xs : List Int) (stop k parts digits v : Int) (net : Int32) : Option Int32 :=
  if h : k ≤ stop then
    (if k < stop ∧ digP (atS xs k) then (if 3 < digits + 1 then none else quadR xs stop (k + 1) parts (digits + 1) (10 * v + atS xs k - 48) net)
    else if (k < stop ∧ ¬ atS xs k = 46) ∨ digits = 0 ∨ 255 < v then none
    else quadR xs stop (k + 1) (parts + 1) 0 0 ((net <<< (zI 8 &&& 31)) ||| zI v))
  else if parts = 4 then some net else none
termination_by (stop + 1 - k).toNat
decreasing_by all_goals omega
theorem quadR_big (xs : List Int) (stop : Int) : ∀ (N : Nat) (k parts digits v : Int) (net : Int32), (stop + 1 - k).toNat < N → 0 ≤ digits → k ≤ stop → 255 < v → quadR xs stop k parts digits v net = none := by
  intro N
  induction N with
  | zero => intro k parts digits v net h; omega
  | succ N ih =>
    intro k parts digits v net h h0 hk hv
    rw [quadR]
    rw [dif_pos hk]
    split
    · split
      · rfl
      · exact ih _ _ _ _ _ (by omega) (by omega) (by omega) (by omega)
    · rw [if_pos (by omega)]
theorem quadR_many (xs : List Int) (stop : Int) : ∀ (N : Nat) (k parts digits v : Int) (net : Int32), (stop + 1 - k).toNat < N → (4 ≤ parts ∧ k ≤ stop ∨ 5 ≤ parts) → quadR xs stop k parts digits v net = none := by
  intro N
  induction N with
  | zero => intro k parts digits v net h; omega
  | succ N ih =>
    intro k parts digits v net h hp
    rw [quadR]
    split
    · split
      · split
        · rfl
        · exact ih _ _ _ _ _ (by omega) (by omega)
      · split
        · rfl
        · exact ih _ _ _ _ _ (by omega) (by omega)
    · rw [if_neg (by omega)]
theorem quadR_L (xs : List Int) (stop : Int) : ∀ (N : Nat) (k dots digits number : Int) (net : Int32), (stop + 1 - k).toNat < N → k ≤ stop → 0 ≤ dots → dots ≤ 3 → 0 ≤ digits → digits ≤ 3 → 0 ≤ number → number ≤ 255 → quadR xs stop k dots digits number net = quadL xs stop k dots digits number net := by
  intro N
  induction N with
  | zero => intro k dots digits number net h; omega
  | succ N ih =>
    intro k dots digits number net h hk h1 h2 h3 h4 h5 h6
    rw [quadR, quadL, dif_pos hk]
    by_cases hs : k < stop
    · rw [dif_pos hs]
      by_cases hd : digP (atS xs k)
      · rw [if_pos ⟨hs, hd⟩]
        by_cases h9 : digits < 3
        · rw [if_neg (by omega), if_pos ⟨hd, h9⟩]
          have e : 10 * number + atS xs k - 48 = number * 10 + atS xs k - 48 := by omega
          rw [e]
          by_cases h8 : 255 < number * 10 + atS xs k - 48
          · rw [if_pos h8]
            exact quadR_big xs stop _ _ _ _ _ _ (Nat.lt_succ_self _) (by omega) (by omega) h8
          · rw [if_neg h8]
            exact ih _ _ _ _ _ (by omega) (by omega) h1 h2 (by omega) (by omega) (by omega) (by omega)
        · rw [if_pos (by omega), if_neg (by omega), if_neg (by omega)]
      · rw [if_neg (show ¬ (k < stop ∧ digP (atS xs k)) from fun z => hd z.2), if_neg (show ¬ (digP (atS xs k) ∧ digits < 3) from fun z => hd z.1)]
        by_cases h7 : atS xs k = 46 ∧ 0 < digits ∧ dots < 3
        · rw [if_neg (by omega), if_pos h7]
          exact ih _ _ _ _ _ (by omega) (by omega) (by omega) (by omega) (by omega) (by omega) (by omega) (by omega)
        · rw [if_neg h7]
          by_cases h6 : (k < stop ∧ ¬ atS xs k = 46) ∨ digits = 0 ∨ 255 < number
          · rw [if_pos h6]
          · rw [if_neg h6]
            exact quadR_many xs stop _ _ _ _ _ _ (Nat.lt_succ_self _) (by omega)
    · rw [dif_neg hs, if_neg (by omega)]
      by_cases h7 : dots = 3 ∧ 0 < digits
      · rw [if_neg (by omega), if_pos h7, quadR, dif_neg (by omega), if_pos (by omega)]
      · rw [if_neg h7]
        by_cases h6 : digits = 0
        · rw [if_pos (by omega)]
        · rw [if_neg (by omega), quadR, dif_neg (by omega), if_neg (by omega)]
/-- what a word says: kind, width, network, D -/
abbrev Tm : Type := Int × Int × Int32 × Option (Int × Int)
def hostS (xs : List Int) (kind q stop : Int) : Option Tm :=
  if q < findS xs 47 q stop ∧ ¬ (atS xs q = 58 ∧ targS xs (q + 1) (findS xs 47 q stop) = true) then none else
  match (if findS xs 47 q stop = stop then some 32 else bitsS xs (findS xs 47 q stop + 1) stop) with
  | none => none
  | some w => some (kind, w, 0, if q < findS xs 47 q stop then some (q + 1, findS xs 47 q stop) else none)
def ip4S (xs : List Int) (q stop : Int) : Option Tm :=
  match quadL xs (findS xs 47 q stop) q 0 0 0 0, (if findS xs 47 q stop = stop then some 32 else bitsS xs (findS xs 47 q stop + 1) stop) with
  | some n, some w => some (4, w, n, none)
  | _, _ => none
def otherS (xs : List Int) (q stop : Int) : Bool := decide (findS xs 61 q stop < stop) && wordS xs q (findS xs 61 q stop)
def targT (xs : List Int) (kind q stop : Int) : Option Tm := if targS xs q stop = true then some (kind, 32, 0, some (q, stop)) else none
def termS (xs w1 w2 w3 w4 w5 w6 w7 : List Int) (q stop : Int) (signed : Bool) : Option Tm :=
  if stop - q = 3 ∧ hasS xs w1 q stop = true then some (0, 32, 0, none)
  else if hasS xs w2 q stop = true then targT xs 1 (q + 8) stop
  else if hasS xs w3 q stop = true then targT xs 5 (q + 7) stop
  else if hasS xs w4 q stop = true then ip4S xs (q + 4) stop
  else if hasS xs w5 q stop = true ∧ (stop = q + 1 ∨ atS xs (q + 1) = 58 ∨ atS xs (q + 1) = 47) then hostS xs 2 (q + 1) stop
  else if hasS xs w6 q stop = true ∧ (stop = q + 2 ∨ atS xs (q + 2) = 58 ∨ atS xs (q + 2) = 47) then hostS xs 3 (q + 2) stop
  else if signed = true then none
  else if hasS xs w7 q stop = true then targT xs 6 (q + 9) stop
  else if otherS xs q stop = true then some (7, 32, 0, none) else none
/-! as the class tries one after the other -/
def altAll (xs : List Int) (q stop : Int) : Option Tm := if stop - q = 3 ∧ hasS xs (wrd 1) q stop = true then some (0, 32, 0, none) else none
def altT (xs : List Int) (i : Nat) (kind q stop d : Int) : Option Tm := if hasS xs (wrd i) q stop = true then targT xs kind (q + d) stop else none
def altH (xs : List Int) (i : Nat) (kind q stop d : Int) : Option Tm := if hasS xs (wrd i) q stop = true then hostS xs kind (q + d) stop else none
def altI (xs : List Int) (q stop : Int) : Option Tm := if hasS xs (wrd 5) q stop = true then ip4S xs (q + 4) stop else none
def altO (xs : List Int) (q stop : Int) : Option Tm := if otherS xs q stop = true ∧ hasS xs (wrd 7) q stop = false then some (7, 32, 0, none) else none
/-- behind readAll, include, a, mx, ip4, exists, redirect -/
def rs7 (xs : List Int) (q stop : Int) (sg : Bool) : Option Tm := if sg = true then none else altO xs q stop
def rs6 (xs : List Int) (q stop : Int) (sg : Bool) : Option Tm := (if sg = true then none else altT xs 7 6 q stop 9).or (rs7 xs q stop sg)
def rs5 (xs : List Int) (q stop : Int) (sg : Bool) : Option Tm := (altT xs 6 5 q stop 7).or (rs6 xs q stop sg)
def rs4 (xs : List Int) (q stop : Int) (sg : Bool) : Option Tm := (altI xs q stop).or (rs5 xs q stop sg)
def rs3 (xs : List Int) (q stop : Int) (sg : Bool) : Option Tm := (altH xs 4 3 q stop 2).or (rs4 xs q stop sg)
def rs2 (xs : List Int) (q stop : Int) (sg : Bool) : Option Tm := (altH xs 3 2 q stop 1).or (rs3 xs q stop sg)
def rs1 (xs : List Int) (q stop : Int) (sg : Bool) : Option Tm := (altT xs 2 1 q stop 8).or (rs2 xs q stop sg)
def rs0 (xs : List Int) (q stop : Int) (sg : Bool) : Option Tm := (altAll xs q stop).or (rs1 xs q stop sg)
/-- the fields of a term that was read -/
def fld (tm : Tm) (k n : Int) (w : Int32) (f o : Int) : Prop := k = tm.1 ∧ (tm.1 = 2 ∨ tm.1 = 3 ∨ tm.1 = 4 → n = tm.2.1) ∧ (tm.1 = 4 → w = tm.2.2.1) ∧ (∀ d, tm.2.2.2 = some d → f = d.1 ∧ o = d.2) ∧ (tm.2.2.2 = none → tm.1 = 2 ∨ tm.1 = 3 → f = o)
theorem has_first {xs : List Int} {i : Nat} {q stop : Int} {c : Int} (h : hasS xs (wrd i) q stop = true) (hc : 0 < (wrd i).length ∧ (wrd i).getD 0 0 = c) : atS xs q = c := by
  have h1 := (of_decide_eq_true h).2 0 hc.1
  rw [hc.2] at h1
  have e : q + ((0 : Nat) : Int) = q := by omega
  rw [e] at h1
  exact h1
theorem has_nth {xs : List Int} {i : Nat} {q stop : Int} (h : hasS xs (wrd i) q stop = true) (j : Nat) {c : Int} (hc : j < (wrd i).length ∧ (wrd i).getD j 0 = c) : atS xs (q + j) = c := by
  have h1 := (of_decide_eq_true h).2 j hc.1
  rw [hc.2] at h1
  exact h1
theorem isS_t {α : Type} {x : Option α} (h : x.isSome = true) : ∃ v, x = some v := Option.isSome_iff_exists.mp h
theorem isS_f {α : Type} {x : Option α} (h : x.isSome = false) : x = none := by
  cases x with
  | none => rfl
  | some v => cases h
theorem or_no {α : Type} {x y z : Option α} (h : x.or y = z) (hx : x = none) : y = z := by
  rw [hx, Option.none_or] at h
  exact h
theorem or_yes {α : Type} {x y z : Option α} {v : α} (h : x.or y = z) (hx : x = some v) : z = some v := by
  rw [hx, Option.some_or] at h
  exact h.symm
theorem ip4_f1 {xs : List Int} {q stop : Int} (h : quadL xs (findS xs 47 q stop) q 0 0 0 0 = none) : ip4S xs q stop = none := by
  unfold ip4S
  rw [h]
theorem ip4_f2 {xs : List Int} {q stop : Int} (h1 : ¬ findS xs 47 q stop = stop) (h : bitsS xs (findS xs 47 q stop + 1) stop = none) : ip4S xs q stop = none := by
  unfold ip4S
  rw [if_neg h1, h]
  split
  · next h2 => cases h2
  · rfl
theorem ip4_s1 {xs : List Int} {q stop : Int} {n : Int32} (h : quadL xs (findS xs 47 q stop) q 0 0 0 0 = some n) (h1 : findS xs 47 q stop = stop) : ip4S xs q stop = some (4, 32, n, none) := by
  unfold ip4S
  rw [h, if_pos h1]
theorem ip4_s2 {xs : List Int} {q stop : Int} {n : Int32} {w : Int} (h : quadL xs (findS xs 47 q stop) q 0 0 0 0 = some n) (h1 : ¬ findS xs 47 q stop = stop) (h2 : bitsS xs (findS xs 47 q stop + 1) stop = some w) : ip4S xs q stop = some (4, w, n, none) := by
  unfold ip4S
  rw [h, if_neg h1, h2]
theorem host_f1 {xs : List Int} {kind q stop : Int} (h : q < findS xs 47 q stop) (h1 : ¬ (atS xs q = 58 ∧ targS xs (q + 1) (findS xs 47 q stop) = true)) : hostS xs kind q stop = none := by
  unfold hostS
  rw [if_pos ⟨h, h1⟩]
theorem host_f2 {xs : List Int} {kind q stop : Int} (h1 : ¬ findS xs 47 q stop = stop) (h : bitsS xs (findS xs 47 q stop + 1) stop = none) : hostS xs kind q stop = none := by
  unfold hostS
  by_cases h2 : q < findS xs 47 q stop ∧ ¬ (atS xs q = 58 ∧ targS xs (q + 1) (findS xs 47 q stop) = true)
  · rw [if_pos h2]
  · rw [if_neg h2, if_neg h1, h]
theorem host_s1 {xs : List Int} {kind q stop : Int} (h : q < findS xs 47 q stop → atS xs q = 58 ∧ targS xs (q + 1) (findS xs 47 q stop) = true) (h1 : findS xs 47 q stop = stop) : hostS xs kind q stop = some (kind, 32, 0, if q < findS xs 47 q stop then some (q + 1, findS xs 47 q stop) else none) := by
  unfold hostS
  rw [if_neg (fun z => z.2 (h z.1)), if_pos h1]
theorem host_s2 {xs : List Int} {kind q stop w : Int} (h : q < findS xs 47 q stop → atS xs q = 58 ∧ targS xs (q + 1) (findS xs 47 q stop) = true) (h1 : ¬ findS xs 47 q stop = stop) (h2 : bitsS xs (findS xs 47 q stop + 1) stop = some w) : hostS xs kind q stop = some (kind, w, 0, if q < findS xs 47 q stop then some (q + 1, findS xs 47 q stop) else none) := by
  unfold hostS
  rw [if_neg (fun z => z.2 (h z.1)), if_neg h1, h2]
theorem altT_f {xs : List Int} {i : Nat} {kind q stop d : Int} (h : hasS xs (wrd i) q stop = false ∨ targS xs (q + d) stop = false) : altT xs i kind q stop d = none := by
  unfold altT targT
  rcases h with h | h
  · rw [h]; rfl
  · rw [h]; split <;> rfl
theorem altT_t {xs : List Int} {i : Nat} {kind q stop d : Int} (h : hasS xs (wrd i) q stop = true) (h1 : targS xs (q + d) stop = true) : altT xs i kind q stop d = some (kind, 32, 0, some (q + d, stop)) := by
  unfold altT targT
  rw [if_pos h, if_pos h1]
theorem altH_f {xs : List Int} {i : Nat} {kind q stop d : Int} (h : hasS xs (wrd i) q stop = false ∨ hostS xs kind (q + d) stop = none) : altH xs i kind q stop d = none := by
  unfold altH
  rcases h with h | h
  · rw [h]; rfl
  · rw [h]; split <;> rfl
theorem altH_t {xs : List Int} {i : Nat} {kind q stop d : Int} {v : Tm} (h : hasS xs (wrd i) q stop = true) (h1 : hostS xs kind (q + d) stop = some v) : altH xs i kind q stop d = some v := by
  unfold altH
  rw [if_pos h, h1]
theorem altI_f {xs : List Int} {q stop : Int} (h : hasS xs (wrd 5) q stop = false ∨ ip4S xs (q + 4) stop = none) : altI xs q stop = none := by
  unfold altI
  rcases h with h | h
  · rw [h]; rfl
  · rw [h]; split <;> rfl
theorem altI_t {xs : List Int} {q stop : Int} {v : Tm} (h : hasS xs (wrd 5) q stop = true) (h1 : ip4S xs (q + 4) stop = some v) : altI xs q stop = some v := by
  unfold altI
  rw [if_pos h, h1]
def sgnS (xs : List Int) (start : Int) : Int := if sgP (atS xs start) then atS xs start else 43
def readS (xs : List Int) (start : Int) : Option Tm := rs0 xs (if sgP (atS xs start) then start + 1 else start) (findS xs 32 start xs.length) (decide (sgP (atS xs start)))
theorem altO_is {xs : List Int} {q stop : Int} {v : Tm} (h : altO xs q stop = some v) : v = (7, 32, 0, none) := by
  unfold altO at h
  split at h
  · exact (Option.some.inj h).symm
  · cases h
end
section
/-! MACROS: what a D becomes; the sender -/
/-- where parts end: one behind each dot and one behind the end -/
def stL (xs : List Int) (k : Int) : List Int :=
  if h : k ≤ xs.length then (if k = xs.length ∨ atS xs k = 46 then (k + 1) :: stL xs (k + 1) else stL xs (k + 1)) else []
termination_by (xs.length + 1 - k).toNat
decreasing_by all_goals omega
def sliS (xs : List Int) (fr to : Int) : List Int := (xs.drop fr.toNat).take (to - fr).toNat
/-- part p of a text -/
def partS (xs : List Int) (p : Int) : List Int := sliS xs ((0 :: stL xs 0).getD p.toNat 0) ((stL xs 0).getD p.toNat 0 - 1)
def outL (xs : List Int) (first : Int) (turned : Bool) (k : Int) : List Int :=
  if h : k < (stL xs 0).length then (if first < k then [46] else []) ++ partS xs (if turned = true then (stL xs 0).length - 1 - k else k) ++ outL xs first turned (k + 1) else []
termination_by ((stL xs 0).length - k).toNat
decreasing_by all_goals omega
def outS (xs : List Int) (most : Int) (turned : Bool) : List Int := outL xs (max 0 ((stL xs 0).length - most)) turned (max 0 ((stL xs 0).length - most))
/-- a number of 0 to 255 -/
def numS (v : Int) : List Int := (if 100 ≤ v then [48 + v / 100] else []) ++ (if 10 ≤ v then [48 + v / 10 % 10] else []) ++ [48 + v % 10]
/-- an address in four numbers -/
def dotS (a : Int) : List Int := numS (a / 16777216 % 256) ++ [46] ++ numS (a / 65536 % 256) ++ [46] ++ numS (a / 256 % 256) ++ [46] ++ numS (a % 256)
/-- the sender: local, domain, address -/
abbrev Snd : Type := List Int × List Int × Int32
def srcS (s : Snd) (chk : List Int) (c : Int) : List Int := if c = 115 then s.1 ++ [64] ++ s.2.1 else if c = 108 then s.1 else if c = 111 then s.2.1 else if c = 105 then dotS s.2.2.toInt else chk
def signS (c : Int) : List Int := if c = 37 then [37] else if c = 95 then [32] else [37, 50, 48]
def macS (s : Snd) (chk xs : List Int) (k len : Int) : List Int :=
  outS (srcS s chk (atS xs (k + 2))) (if pnP (atS xs (k + 3)) then atS xs (k + 3) - 48 else (srcS s chk (atS xs (k + 2))).length + 1) (decide (atS xs (k + len - 2) = 114))
def expL (s : Snd) (chk xs : List Int) (to k : Int) : List Int :=
  if h : k < to then
    (if h1 : atS xs k = 37 ∧ ¬ mlenS xs k to = 0 then
      (if mlenS xs k to = 2 then signS (atS xs (k + 1)) else macS s chk xs k (mlenS xs k to)) ++ expL s chk xs to (k + mlenS xs k to)
    else [(atS xs k + 128) % 256 - 128] ++ expL s chk xs to (k + 1))
  else []
termination_by (to - k).toNat
decreasing_by
  · have h9 := mlenS_rng xs k to
    omega
  · omega
/-! the sender and the macros' own rows -/
/-- a sender as the class takes it: its parts' lengths -/
abbrev sndP (s : Snd) : Prop := 1 ≤ s.1.length ∧ s.1.length ≤ 30 ∧ 1 ≤ s.2.1.length ∧ s.2.1.length ≤ 60
def IsSe (D : Dg) (M : Mp) (a : Nat) (so : Option Snd) : Prop := ∃ (m l d e : Nat) (bm bl bd be : Bv) (ad : Int32), M a = some (8, .inr (cSe, [.ref m, .ref l, .ref d, .ref e, .int ad])) ∧ IsB D M m 9 91 bm ∧ IsB D M l 11 30 bl ∧ IsB D M d 13 60 bd ∧ IsB D M e 15 15 be ∧ (be.1 : Int) = 15 ∧ (so = none → bm.2 = []) ∧ ∀ s : Snd, so = some s → sndP s ∧ bm.2 = s.1 ++ [64] ++ s.2.1 ∧ bl.2 = s.1 ∧ bd.2 = s.2.1 ∧ be.2 = dotS s.2.2.toInt ∧ ad = s.2.2
theorem IsSe.fr {D : Dg} {M M' : Mp} {a : Nat} {so : Option Snd} {T : List Nat} (h : IsSe D M a so) (hf : Fr T M M') (hn : ∀ u ∈ T, u < 8 ∨ 16 < u) : IsSe D M' a so := by
  obtain ⟨m, l, d, e, bm, bl, bd, be, ad, h1, h2, h3, h4, h5, h6⟩ := h
  have g : ∀ i : Nat, 8 ≤ i → i ≤ 16 → i ∉ T := fun i hi hj z => by
    have := hn _ z
    omega
  exact ⟨m, l, d, e, bm, bl, bd, be, ad, hf.at h1 (g 8 (by omega) (by omega)), h2.fr hf (g 9 (by omega) (by omega)) (g 10 (by omega) (by omega)), h3.fr hf (g 11 (by omega) (by omega)) (g 12 (by omega) (by omega)), h4.fr hf (g 13 (by omega) (by omega)) (g 14 (by omega) (by omega)), h5.fr hf (g 15 (by omega) (by omega)) (g 16 (by omega) (by omega)), h6⟩
theorem IsSe.obj {D : Dg} {M : Mp} {a : Nat} {so : Option Snd} (h : IsSe D M a so) : IsObj M a cSe := by
  obtain ⟨m, l, d, e, bm, bl, bd, be, ad, h1, -⟩ := h
  exact ⟨_, _, h1⟩
def IsMa (D : Dg) (M : Mp) (a : Nat) (se : Nat) : Prop := ∃ (r : Nat) (g : Nat → Int), M a = some (17, .inr (cMa, [.ref se, .ref r])) ∧ M r = some (18, arI D 93 g)
theorem IsMa.fr {D : Dg} {M M' : Mp} {a se : Nat} {T : List Nat} (h : IsMa D M a se) (hf : Fr T M M') (hn : 17 ∉ T) (hn2 : 18 ∉ T) : IsMa D M' a se := by
  obtain ⟨r, g, h1, h2⟩ := h
  exact ⟨r, g, hf.at h1 hn, hf.at h2 hn2⟩
theorem IsMa.obj {D : Dg} {M : Mp} {a se : Nat} (h : IsMa D M a se) : IsObj M a cMa := by
  obtain ⟨r, g, h1, -⟩ := h
  exact ⟨_, _, h1⟩
end
section
theorem fws_Te : ∀ w ∈ u_ws R_Te F_Te 6, w ∈ TB := by decide +kernel
theorem ft_Te : FT cTe t_Te := fun C T N h => by
  have h2 : some (R_Te, F_Te, 6) = some (C, T, N) := h
  cases h2
  exact ⟨by decide +kernel, by decide +kernel⟩
theorem fl_Te_15 : FL "SendPolicy$Term" 15 cTe 2 := ⟨R_Te, F_Te, 6, rfl, fws_Te, (Nat.le_of_ble_eq_true rfl), (tb_in 153 (by decide +kernel) rfl)⟩
theorem fl_Te_21 : FL "SendPolicy$Term" 21 cTe 4 := ⟨R_Te, F_Te, 6, rfl, fws_Te, (Nat.le_of_ble_eq_true rfl), (tb_in 155 (by decide +kernel) rfl)⟩
theorem lm_Te_3 : Cond.methodLink "SendPolicy$Term" 3 ⟨"java/lang/Object", "<init>", "()V"⟩ ∈ TB := (tb_in 150 (by decide +kernel) rfl)
theorem fl_Te_9 : FL "SendPolicy$Term" 9 cTe 0 := ⟨R_Te, F_Te, 6, rfl, fws_Te, (Nat.le_of_ble_eq_true rfl), (tb_in 151 (by decide +kernel) rfl)⟩
theorem fl_Te_18 : FL "SendPolicy$Term" 18 cTe 3 := ⟨R_Te, F_Te, 6, rfl, fws_Te, (Nat.le_of_ble_eq_true rfl), (tb_in 154 (by decide +kernel) rfl)⟩
theorem cv_Te_36 : CV "SendPolicy$Term" 36 y_By_size b_By_size 1 (some .int) 0 cBy := ⟨mw_By_size, (tb_in 482 (by decide +kernel) rfl), (tb_in 233 (by decide +kernel) rfl), (tb_in 234 (by decide +kernel) rfl), _, rfl, rfl⟩
theorem cv_Te_40 : CV "SendPolicy$Term" 40 y_By_find b_By_find 5 (some .int) 3 cBy := ⟨mw_By_find, (tb_in 483 (by decide +kernel) rfl), (tb_in 280 (by decide +kernel) rfl), (tb_in 281 (by decide +kernel) rfl), _, rfl, rfl⟩
theorem cv_Te_30 : CV "SendPolicy$Term" 30 y_By_at b_By_at 2 (some .int) 1 cBy := ⟨mw_By_at, (tb_in 477 (by decide +kernel) rfl), (tb_in 284 (by decide +kernel) rfl), (tb_in 285 (by decide +kernel) rfl), _, rfl, rfl⟩
theorem fl_Te_27 : FL "SendPolicy$Term" 27 cTe 1 := ⟨R_Te, F_Te, 6, rfl, fws_Te, (Nat.le_of_ble_eq_true rfl), (tb_in 152 (by decide +kernel) rfl)⟩
theorem fw_Te_1 : FW cTe 1 := fun C T N h => by
  have h2 : some (R_Te, F_Te, 6) = some (C, T, N) := h
  cases h2
  rfl
theorem fw_Te_2 : FW cTe 2 := fun C T N h => by
  have h2 : some (R_Te, F_Te, 6) = some (C, T, N) := h
  cases h2
  rfl
theorem fw_Te_4 : FW cTe 4 := fun C T N h => by
  have h2 : some (R_Te, F_Te, 6) = some (C, T, N) := h
  cases h2
  rfl
theorem fl_Te_24 : FL "SendPolicy$Term" 24 cTe 5 := ⟨R_Te, F_Te, 6, rfl, fws_Te, (Nat.le_of_ble_eq_true rfl), (tb_in 156 (by decide +kernel) rfl)⟩
theorem fw_Te_5 : FW cTe 5 := fun C T N h => by
  have h2 : some (R_Te, F_Te, 6) = some (C, T, N) := h
  cases h2
  rfl
set_option maxRecDepth 100000 in
theorem mw_Te_readAll : MW y_Te_readAll b_Te_readAll 4 (some .boolean) 3 := ⟨tb_in 487 rfl rfl, (tb_in 38 (by decide +kernel) rfl), ⟨by decide +kernel, by decide +kernel, by decide +kernel⟩, (Nat.le_of_ble_eq_true rfl)⟩
theorem cv_Te_44 : CV "SendPolicy$Term" 44 y_Te_readAll b_Te_readAll 4 (some .boolean) 3 cTe := ⟨mw_Te_readAll, (tb_in 484 (by decide +kernel) rfl), (tb_in 486 (by decide +kernel) rfl), (tb_in 1 (by decide +kernel) rfl), _, rfl, rfl⟩
theorem cv_Te_50 : CV "SendPolicy$Term" 50 y_By_has b_By_has 5 (some .boolean) 3 cBy := ⟨mw_By_has, (tb_in 489 (by decide +kernel) rfl), (tb_in 411 (by decide +kernel) rfl), (tb_in 412 (by decide +kernel) rfl), _, rfl, rfl⟩
set_option maxRecDepth 100000 in
theorem mw_Te_readTarget : MW y_Te_readTarget b_Te_readTarget 5 (some .boolean) 4 := ⟨tb_in 494 rfl rfl, (tb_in 38 (by decide +kernel) rfl), ⟨by decide +kernel, by decide +kernel, by decide +kernel⟩, (Nat.le_of_ble_eq_true rfl)⟩
theorem cv_Te_54 : CV "SendPolicy$Term" 54 y_Te_readTarget b_Te_readTarget 5 (some .boolean) 4 cTe := ⟨mw_Te_readTarget, (tb_in 491 (by decide +kernel) rfl), (tb_in 493 (by decide +kernel) rfl), (tb_in 2 (by decide +kernel) rfl), _, rfl, rfl⟩
set_option maxRecDepth 100000 in
theorem mw_Te_readHost : MW y_Te_readHost b_Te_readHost 6 (some .boolean) 4 := ⟨tb_in 512 rfl rfl, (tb_in 38 (by decide +kernel) rfl), ⟨by decide +kernel, by decide +kernel, by decide +kernel⟩, (Nat.le_of_ble_eq_true rfl)⟩
theorem cv_Te_60 : CV "SendPolicy$Term" 60 y_Te_readHost b_Te_readHost 6 (some .boolean) 4 cTe := ⟨mw_Te_readHost, (tb_in 509 (by decide +kernel) rfl), (tb_in 511 (by decide +kernel) rfl), (tb_in 3 (by decide +kernel) rfl), _, rfl, rfl⟩
set_option maxRecDepth 100000 in
theorem mw_Te_readNetwork : MW y_Te_readNetwork b_Te_readNetwork 5 (some .boolean) 3 := ⟨tb_in 523 rfl rfl, (tb_in 38 (by decide +kernel) rfl), ⟨by decide +kernel, by decide +kernel, by decide +kernel⟩, (Nat.le_of_ble_eq_true rfl)⟩
theorem cv_Te_67 : CV "SendPolicy$Term" 67 y_Te_readNetwork b_Te_readNetwork 5 (some .boolean) 3 cTe := ⟨mw_Te_readNetwork, (tb_in 520 (by decide +kernel) rfl), (tb_in 522 (by decide +kernel) rfl), (tb_in 5 (by decide +kernel) rfl), _, rfl, rfl⟩
set_option maxRecDepth 100000 in
theorem mw_Te_readOther : MW y_Te_readOther b_Te_readOther 5 (some .boolean) 3 := ⟨tb_in 533 rfl rfl, (tb_in 38 (by decide +kernel) rfl), ⟨by decide +kernel, by decide +kernel, by decide +kernel⟩, (Nat.le_of_ble_eq_true rfl)⟩
theorem cv_Te_74 : CV "SendPolicy$Term" 74 y_Te_readOther b_Te_readOther 5 (some .boolean) 3 cTe := ⟨mw_Te_readOther, (tb_in 530 (by decide +kernel) rfl), (tb_in 532 (by decide +kernel) rfl), (tb_in 7 (by decide +kernel) rfl), _, rfl, rfl⟩
theorem fw_Te_0 : FW cTe 0 := fun C T N h => by
  have h2 : some (R_Te, F_Te, 6) = some (C, T, N) := h
  cases h2
  rfl
theorem cs_Te_95 : CS "SendPolicy$Term" 95 y_Si_isDigit b_Si_isDigit 1 (some .boolean) 1 := ⟨mw_Si_isDigit, (tb_in 517 (by decide +kernel) rfl), (tb_in 301 (by decide +kernel) rfl)⟩
theorem fw_Te_3 : FW cTe 3 := fun C T N h => by
  have h2 : some (R_Te, F_Te, 6) = some (C, T, N) := h
  cases h2
  rfl
set_option maxRecDepth 100000 in
theorem mw_Ma_isTarget : MW y_Ma_isTarget b_Ma_isTarget 6 (some .boolean) 3 := ⟨tb_in 497 rfl rfl, (tb_in 35 (by decide +kernel) rfl), ⟨by decide +kernel, by decide +kernel, by decide +kernel⟩, (Nat.le_of_ble_eq_true rfl)⟩
theorem cs_Te_84 : CS "SendPolicy$Term" 84 y_Ma_isTarget b_Ma_isTarget 6 (some .boolean) 3 := ⟨mw_Ma_isTarget, (tb_in 495 (by decide +kernel) rfl), (tb_in 496 (by decide +kernel) rfl)⟩
set_option maxRecDepth 100000 in
theorem mw_Te_readBits : MW y_Te_readBits b_Te_readBits 5 (some .boolean) 3 := ⟨tb_in 516 rfl rfl, (tb_in 38 (by decide +kernel) rfl), ⟨by decide +kernel, by decide +kernel, by decide +kernel⟩, (Nat.le_of_ble_eq_true rfl)⟩
theorem cv_Te_89 : CV "SendPolicy$Term" 89 y_Te_readBits b_Te_readBits 5 (some .boolean) 3 cTe := ⟨mw_Te_readBits, (tb_in 513 (by decide +kernel) rfl), (tb_in 515 (by decide +kernel) rfl), (tb_in 4 (by decide +kernel) rfl), _, rfl, rfl⟩
set_option maxRecDepth 100000 in
theorem mw_Te_readFour : MW y_Te_readFour b_Te_readFour 9 (some .boolean) 3 := ⟨tb_in 527 rfl rfl, (tb_in 38 (by decide +kernel) rfl), ⟨by decide +kernel, by decide +kernel, by decide +kernel⟩, (Nat.le_of_ble_eq_true rfl)⟩
theorem cv_Te_92 : CV "SendPolicy$Term" 92 y_Te_readFour b_Te_readFour 9 (some .boolean) 3 cTe := ⟨mw_Te_readFour, (tb_in 524 (by decide +kernel) rfl), (tb_in 526 (by decide +kernel) rfl), (tb_in 6 (by decide +kernel) rfl), _, rfl, rfl⟩
set_option maxRecDepth 100000 in
theorem mw_Si_isWord : MW y_Si_isWord b_Si_isWord 4 (some .boolean) 3 := ⟨tb_in 536 rfl rfl, (tb_in 43 (by decide +kernel) rfl), ⟨by decide +kernel, by decide +kernel, by decide +kernel⟩, (Nat.le_of_ble_eq_true rfl)⟩
theorem cs_Te_79 : CS "SendPolicy$Term" 79 y_Si_isWord b_Si_isWord 4 (some .boolean) 3 := ⟨mw_Si_isWord, (tb_in 534 (by decide +kernel) rfl), (tb_in 535 (by decide +kernel) rfl)⟩
/-! DECODE ROWS: printed by wip/gen/names.py -/
theorem d_Te_bits_0 : decode b_Te_bits 0 = .ok (.aload_n 0, 1) := by decide +kernel
theorem d_Te_bits_1 : decode b_Te_bits 1 = .ok (.getfield 15, 3) := by decide +kernel
theorem d_Te_bits_4 : decode b_Te_bits 4 = .ok (.ireturn, 1) := by decide +kernel
theorem d_Te_from_0 : decode b_Te_from 0 = .ok (.aload_n 0, 1) := by decide +kernel
theorem d_Te_from_1 : decode b_Te_from 1 = .ok (.getfield 21, 3) := by decide +kernel
theorem d_Te_from_4 : decode b_Te_from 4 = .ok (.ireturn, 1) := by decide +kernel
theorem d_Te_init_0 : decode b_Te_init 0 = .ok (.aload_n 0, 1) := by decide +kernel
theorem d_Te_init_1 : decode b_Te_init 1 = .ok (.invokespecial 3, 3) := by decide +kernel
theorem d_Te_init_4 : decode b_Te_init 4 = .ok (.return_, 1) := by decide +kernel
theorem d_Te_kind_0 : decode b_Te_kind 0 = .ok (.aload_n 0, 1) := by decide +kernel
theorem d_Te_kind_1 : decode b_Te_kind 1 = .ok (.getfield 9, 3) := by decide +kernel
theorem d_Te_kind_4 : decode b_Te_kind 4 = .ok (.ireturn, 1) := by decide +kernel
theorem d_Te_network_0 : decode b_Te_network 0 = .ok (.aload_n 0, 1) := by decide +kernel
theorem d_Te_network_1 : decode b_Te_network 1 = .ok (.getfield 18, 3) := by decide +kernel
theorem d_Te_network_4 : decode b_Te_network 4 = .ok (.ireturn, 1) := by decide +kernel
theorem d_Te_read_0 : decode b_Te_read 0 = .ok (.aload_n 1, 1) := by decide +kernel
theorem d_Te_read_1 : decode b_Te_read 1 = .ok (.bipush 32, 2) := by decide +kernel
theorem d_Te_read_3 : decode b_Te_read 3 = .ok (.iload_n 2, 1) := by decide +kernel
theorem d_Te_read_4 : decode b_Te_read 4 = .ok (.aload_n 1, 1) := by decide +kernel
theorem d_Te_read_5 : decode b_Te_read 5 = .ok (.invokevirtual 36, 3) := by decide +kernel
theorem d_Te_read_8 : decode b_Te_read 8 = .ok (.invokevirtual 40, 3) := by decide +kernel
theorem d_Te_read_11 : decode b_Te_read 11 = .ok (.istore_n 3, 1) := by decide +kernel
theorem d_Te_read_12 : decode b_Te_read 12 = .ok (.aload_n 1, 1) := by decide +kernel
theorem d_Te_read_13 : decode b_Te_read 13 = .ok (.iload_n 2, 1) := by decide +kernel
theorem d_Te_read_14 : decode b_Te_read 14 = .ok (.invokevirtual 30, 3) := by decide +kernel
theorem d_Te_read_17 : decode b_Te_read 17 = .ok (.istore 4, 2) := by decide +kernel
theorem d_Te_read_19 : decode b_Te_read 19 = .ok (.iload 4, 2) := by decide +kernel
theorem d_Te_read_21 : decode b_Te_read 21 = .ok (.bipush 43, 2) := by decide +kernel
theorem d_Te_read_23 : decode b_Te_read 23 = .ok (.if_icmp .eq 24, 3) := by decide +kernel
theorem d_Te_read_26 : decode b_Te_read 26 = .ok (.iload 4, 2) := by decide +kernel
theorem d_Te_read_28 : decode b_Te_read 28 = .ok (.bipush 63, 2) := by decide +kernel
theorem d_Te_read_30 : decode b_Te_read 30 = .ok (.if_icmp .eq 17, 3) := by decide +kernel
theorem d_Te_read_33 : decode b_Te_read 33 = .ok (.iload 4, 2) := by decide +kernel
theorem d_Te_read_35 : decode b_Te_read 35 = .ok (.bipush 126, 2) := by decide +kernel
theorem d_Te_read_37 : decode b_Te_read 37 = .ok (.if_icmp .eq 10, 3) := by decide +kernel
theorem d_Te_read_40 : decode b_Te_read 40 = .ok (.iload 4, 2) := by decide +kernel
theorem d_Te_read_42 : decode b_Te_read 42 = .ok (.bipush 45, 2) := by decide +kernel
theorem d_Te_read_44 : decode b_Te_read 44 = .ok (.if_icmp .ne 7, 3) := by decide +kernel
theorem d_Te_read_47 : decode b_Te_read 47 = .ok (.iconst 1, 1) := by decide +kernel
theorem d_Te_read_48 : decode b_Te_read 48 = .ok (.goto 4, 3) := by decide +kernel
theorem d_Te_read_51 : decode b_Te_read 51 = .ok (.iconst 0, 1) := by decide +kernel
theorem d_Te_read_52 : decode b_Te_read 52 = .ok (.istore 5, 2) := by decide +kernel
theorem d_Te_read_54 : decode b_Te_read 54 = .ok (.iload 5, 2) := by decide +kernel
theorem d_Te_read_56 : decode b_Te_read 56 = .ok (.ifCond .eq 9, 3) := by decide +kernel
theorem d_Te_read_59 : decode b_Te_read 59 = .ok (.iload_n 2, 1) := by decide +kernel
theorem d_Te_read_60 : decode b_Te_read 60 = .ok (.iconst 1, 1) := by decide +kernel
theorem d_Te_read_61 : decode b_Te_read 61 = .ok (.iadd, 1) := by decide +kernel
theorem d_Te_read_62 : decode b_Te_read 62 = .ok (.goto 4, 3) := by decide +kernel
theorem d_Te_read_65 : decode b_Te_read 65 = .ok (.iload_n 2, 1) := by decide +kernel
theorem d_Te_read_66 : decode b_Te_read 66 = .ok (.istore 6, 2) := by decide +kernel
theorem d_Te_read_68 : decode b_Te_read 68 = .ok (.aload_n 0, 1) := by decide +kernel
theorem d_Te_read_69 : decode b_Te_read 69 = .ok (.iload 5, 2) := by decide +kernel
theorem d_Te_read_71 : decode b_Te_read 71 = .ok (.ifCond .eq 8, 3) := by decide +kernel
theorem d_Te_read_74 : decode b_Te_read 74 = .ok (.iload 4, 2) := by decide +kernel
theorem d_Te_read_76 : decode b_Te_read 76 = .ok (.goto 5, 3) := by decide +kernel
theorem d_Te_read_79 : decode b_Te_read 79 = .ok (.bipush 43, 2) := by decide +kernel
theorem d_Te_read_81 : decode b_Te_read 81 = .ok (.putfield 27, 3) := by decide +kernel
theorem d_Te_read_84 : decode b_Te_read 84 = .ok (.aload_n 0, 1) := by decide +kernel
theorem d_Te_read_85 : decode b_Te_read 85 = .ok (.bipush 32, 2) := by decide +kernel
theorem d_Te_read_87 : decode b_Te_read 87 = .ok (.putfield 15, 3) := by decide +kernel
theorem d_Te_read_90 : decode b_Te_read 90 = .ok (.aload_n 0, 1) := by decide +kernel
theorem d_Te_read_91 : decode b_Te_read 91 = .ok (.iload_n 3, 1) := by decide +kernel
theorem d_Te_read_92 : decode b_Te_read 92 = .ok (.putfield 21, 3) := by decide +kernel
theorem d_Te_read_95 : decode b_Te_read 95 = .ok (.aload_n 0, 1) := by decide +kernel
theorem d_Te_read_96 : decode b_Te_read 96 = .ok (.iload_n 3, 1) := by decide +kernel
theorem d_Te_read_97 : decode b_Te_read 97 = .ok (.putfield 24, 3) := by decide +kernel
theorem d_Te_read_100 : decode b_Te_read 100 = .ok (.aload_n 0, 1) := by decide +kernel
theorem d_Te_read_101 : decode b_Te_read 101 = .ok (.aload_n 1, 1) := by decide +kernel
theorem d_Te_read_102 : decode b_Te_read 102 = .ok (.iload 6, 2) := by decide +kernel
theorem d_Te_read_104 : decode b_Te_read 104 = .ok (.iload_n 3, 1) := by decide +kernel
theorem d_Te_read_105 : decode b_Te_read 105 = .ok (.invokevirtual 44, 3) := by decide +kernel
theorem d_Te_read_108 : decode b_Te_read 108 = .ok (.ifCond .ne 183, 3) := by decide +kernel
theorem d_Te_read_111 : decode b_Te_read 111 = .ok (.aload_n 1, 1) := by decide +kernel
theorem d_Te_read_112 : decode b_Te_read 112 = .ok (.ldc 48, 2) := by decide +kernel
theorem d_Te_read_114 : decode b_Te_read 114 = .ok (.iload 6, 2) := by decide +kernel
theorem d_Te_read_116 : decode b_Te_read 116 = .ok (.iload_n 3, 1) := by decide +kernel
theorem d_Te_read_117 : decode b_Te_read 117 = .ok (.invokevirtual 50, 3) := by decide +kernel
theorem d_Te_read_120 : decode b_Te_read 120 = .ok (.ifCond .eq 18, 3) := by decide +kernel
theorem d_Te_read_123 : decode b_Te_read 123 = .ok (.aload_n 0, 1) := by decide +kernel
theorem d_Te_read_124 : decode b_Te_read 124 = .ok (.iconst 1, 1) := by decide +kernel
theorem d_Te_read_125 : decode b_Te_read 125 = .ok (.aload_n 1, 1) := by decide +kernel
theorem d_Te_read_126 : decode b_Te_read 126 = .ok (.iload 6, 2) := by decide +kernel
theorem d_Te_read_128 : decode b_Te_read 128 = .ok (.bipush 8, 2) := by decide +kernel
theorem d_Te_read_130 : decode b_Te_read 130 = .ok (.iadd, 1) := by decide +kernel
theorem d_Te_read_131 : decode b_Te_read 131 = .ok (.iload_n 3, 1) := by decide +kernel
theorem d_Te_read_132 : decode b_Te_read 132 = .ok (.invokevirtual 54, 3) := by decide +kernel
theorem d_Te_read_135 : decode b_Te_read 135 = .ok (.ifCond .ne 156, 3) := by decide +kernel
theorem d_Te_read_138 : decode b_Te_read 138 = .ok (.aload_n 1, 1) := by decide +kernel
theorem d_Te_read_139 : decode b_Te_read 139 = .ok (.ldc 58, 2) := by decide +kernel
theorem d_Te_read_141 : decode b_Te_read 141 = .ok (.iload 6, 2) := by decide +kernel
theorem d_Te_read_143 : decode b_Te_read 143 = .ok (.iload_n 3, 1) := by decide +kernel
theorem d_Te_read_144 : decode b_Te_read 144 = .ok (.invokevirtual 50, 3) := by decide +kernel
theorem d_Te_read_147 : decode b_Te_read 147 = .ok (.ifCond .eq 17, 3) := by decide +kernel
theorem d_Te_read_150 : decode b_Te_read 150 = .ok (.aload_n 0, 1) := by decide +kernel
theorem d_Te_read_151 : decode b_Te_read 151 = .ok (.iconst 2, 1) := by decide +kernel
theorem d_Te_read_152 : decode b_Te_read 152 = .ok (.aload_n 1, 1) := by decide +kernel
theorem d_Te_read_153 : decode b_Te_read 153 = .ok (.iload 6, 2) := by decide +kernel
theorem d_Te_read_155 : decode b_Te_read 155 = .ok (.iconst 1, 1) := by decide +kernel
theorem d_Te_read_156 : decode b_Te_read 156 = .ok (.iadd, 1) := by decide +kernel
theorem d_Te_read_157 : decode b_Te_read 157 = .ok (.iload_n 3, 1) := by decide +kernel
theorem d_Te_read_158 : decode b_Te_read 158 = .ok (.invokevirtual 60, 3) := by decide +kernel
theorem d_Te_read_161 : decode b_Te_read 161 = .ok (.ifCond .ne 130, 3) := by decide +kernel
theorem d_Te_read_164 : decode b_Te_read 164 = .ok (.aload_n 1, 1) := by decide +kernel
theorem d_Te_read_165 : decode b_Te_read 165 = .ok (.ldc 63, 2) := by decide +kernel
theorem d_Te_read_167 : decode b_Te_read 167 = .ok (.iload 6, 2) := by decide +kernel
theorem d_Te_read_169 : decode b_Te_read 169 = .ok (.iload_n 3, 1) := by decide +kernel
theorem d_Te_read_170 : decode b_Te_read 170 = .ok (.invokevirtual 50, 3) := by decide +kernel
theorem d_Te_read_173 : decode b_Te_read 173 = .ok (.ifCond .eq 17, 3) := by decide +kernel
theorem d_Te_read_176 : decode b_Te_read 176 = .ok (.aload_n 0, 1) := by decide +kernel
theorem d_Te_read_177 : decode b_Te_read 177 = .ok (.iconst 3, 1) := by decide +kernel
theorem d_Te_read_178 : decode b_Te_read 178 = .ok (.aload_n 1, 1) := by decide +kernel
theorem d_Te_read_179 : decode b_Te_read 179 = .ok (.iload 6, 2) := by decide +kernel
theorem d_Te_read_181 : decode b_Te_read 181 = .ok (.iconst 2, 1) := by decide +kernel
theorem d_Te_read_182 : decode b_Te_read 182 = .ok (.iadd, 1) := by decide +kernel
theorem d_Te_read_183 : decode b_Te_read 183 = .ok (.iload_n 3, 1) := by decide +kernel
theorem d_Te_read_184 : decode b_Te_read 184 = .ok (.invokevirtual 60, 3) := by decide +kernel
theorem d_Te_read_187 : decode b_Te_read 187 = .ok (.ifCond .ne 104, 3) := by decide +kernel
theorem d_Te_read_190 : decode b_Te_read 190 = .ok (.aload_n 1, 1) := by decide +kernel
theorem d_Te_read_191 : decode b_Te_read 191 = .ok (.ldc 65, 2) := by decide +kernel
theorem d_Te_read_193 : decode b_Te_read 193 = .ok (.iload 6, 2) := by decide +kernel
theorem d_Te_read_195 : decode b_Te_read 195 = .ok (.iload_n 3, 1) := by decide +kernel
theorem d_Te_read_196 : decode b_Te_read 196 = .ok (.invokevirtual 50, 3) := by decide +kernel
theorem d_Te_read_199 : decode b_Te_read 199 = .ok (.ifCond .eq 16, 3) := by decide +kernel
theorem d_Te_read_202 : decode b_Te_read 202 = .ok (.aload_n 0, 1) := by decide +kernel
theorem d_Te_read_203 : decode b_Te_read 203 = .ok (.aload_n 1, 1) := by decide +kernel
theorem d_Te_read_204 : decode b_Te_read 204 = .ok (.iload 6, 2) := by decide +kernel
theorem d_Te_read_206 : decode b_Te_read 206 = .ok (.iconst 4, 1) := by decide +kernel
theorem d_Te_read_207 : decode b_Te_read 207 = .ok (.iadd, 1) := by decide +kernel
theorem d_Te_read_208 : decode b_Te_read 208 = .ok (.iload_n 3, 1) := by decide +kernel
theorem d_Te_read_209 : decode b_Te_read 209 = .ok (.invokevirtual 67, 3) := by decide +kernel
theorem d_Te_read_212 : decode b_Te_read 212 = .ok (.ifCond .ne 79, 3) := by decide +kernel
theorem d_Te_read_215 : decode b_Te_read 215 = .ok (.aload_n 1, 1) := by decide +kernel
theorem d_Te_read_216 : decode b_Te_read 216 = .ok (.ldc 70, 2) := by decide +kernel
theorem d_Te_read_218 : decode b_Te_read 218 = .ok (.iload 6, 2) := by decide +kernel
theorem d_Te_read_220 : decode b_Te_read 220 = .ok (.iload_n 3, 1) := by decide +kernel
theorem d_Te_read_221 : decode b_Te_read 221 = .ok (.invokevirtual 50, 3) := by decide +kernel
theorem d_Te_read_224 : decode b_Te_read 224 = .ok (.ifCond .eq 18, 3) := by decide +kernel
theorem d_Te_read_227 : decode b_Te_read 227 = .ok (.aload_n 0, 1) := by decide +kernel
theorem d_Te_read_228 : decode b_Te_read 228 = .ok (.iconst 5, 1) := by decide +kernel
theorem d_Te_read_229 : decode b_Te_read 229 = .ok (.aload_n 1, 1) := by decide +kernel
theorem d_Te_read_230 : decode b_Te_read 230 = .ok (.iload 6, 2) := by decide +kernel
theorem d_Te_read_232 : decode b_Te_read 232 = .ok (.bipush 7, 2) := by decide +kernel
theorem d_Te_read_234 : decode b_Te_read 234 = .ok (.iadd, 1) := by decide +kernel
theorem d_Te_read_235 : decode b_Te_read 235 = .ok (.iload_n 3, 1) := by decide +kernel
theorem d_Te_read_236 : decode b_Te_read 236 = .ok (.invokevirtual 54, 3) := by decide +kernel
theorem d_Te_read_239 : decode b_Te_read 239 = .ok (.ifCond .ne 52, 3) := by decide +kernel
theorem d_Te_read_242 : decode b_Te_read 242 = .ok (.iload 5, 2) := by decide +kernel
theorem d_Te_read_244 : decode b_Te_read 244 = .ok (.ifCond .ne 31, 3) := by decide +kernel
theorem d_Te_read_247 : decode b_Te_read 247 = .ok (.aload_n 1, 1) := by decide +kernel
theorem d_Te_read_248 : decode b_Te_read 248 = .ok (.ldc 72, 2) := by decide +kernel
theorem d_Te_read_250 : decode b_Te_read 250 = .ok (.iload 6, 2) := by decide +kernel
theorem d_Te_read_252 : decode b_Te_read 252 = .ok (.iload_n 3, 1) := by decide +kernel
theorem d_Te_read_253 : decode b_Te_read 253 = .ok (.invokevirtual 50, 3) := by decide +kernel
theorem d_Te_read_256 : decode b_Te_read 256 = .ok (.ifCond .eq 19, 3) := by decide +kernel
theorem d_Te_read_259 : decode b_Te_read 259 = .ok (.aload_n 0, 1) := by decide +kernel
theorem d_Te_read_260 : decode b_Te_read 260 = .ok (.bipush 6, 2) := by decide +kernel
theorem d_Te_read_262 : decode b_Te_read 262 = .ok (.aload_n 1, 1) := by decide +kernel
theorem d_Te_read_263 : decode b_Te_read 263 = .ok (.iload 6, 2) := by decide +kernel
theorem d_Te_read_265 : decode b_Te_read 265 = .ok (.bipush 9, 2) := by decide +kernel
theorem d_Te_read_267 : decode b_Te_read 267 = .ok (.iadd, 1) := by decide +kernel
theorem d_Te_read_268 : decode b_Te_read 268 = .ok (.iload_n 3, 1) := by decide +kernel
theorem d_Te_read_269 : decode b_Te_read 269 = .ok (.invokevirtual 54, 3) := by decide +kernel
theorem d_Te_read_272 : decode b_Te_read 272 = .ok (.ifCond .ne 19, 3) := by decide +kernel
theorem d_Te_read_275 : decode b_Te_read 275 = .ok (.iload 5, 2) := by decide +kernel
theorem d_Te_read_277 : decode b_Te_read 277 = .ok (.ifCond .ne 18, 3) := by decide +kernel
theorem d_Te_read_280 : decode b_Te_read 280 = .ok (.aload_n 0, 1) := by decide +kernel
theorem d_Te_read_281 : decode b_Te_read 281 = .ok (.aload_n 1, 1) := by decide +kernel
theorem d_Te_read_282 : decode b_Te_read 282 = .ok (.iload 6, 2) := by decide +kernel
theorem d_Te_read_284 : decode b_Te_read 284 = .ok (.iload_n 3, 1) := by decide +kernel
theorem d_Te_read_285 : decode b_Te_read 285 = .ok (.invokevirtual 74, 3) := by decide +kernel
theorem d_Te_read_288 : decode b_Te_read 288 = .ok (.ifCond .eq 7, 3) := by decide +kernel
theorem d_Te_read_291 : decode b_Te_read 291 = .ok (.iconst 1, 1) := by decide +kernel
theorem d_Te_read_292 : decode b_Te_read 292 = .ok (.goto 4, 3) := by decide +kernel
theorem d_Te_read_295 : decode b_Te_read 295 = .ok (.iconst 0, 1) := by decide +kernel
theorem d_Te_read_296 : decode b_Te_read 296 = .ok (.ireturn, 1) := by decide +kernel
theorem d_Te_readAll_0 : decode b_Te_readAll 0 = .ok (.aload_n 0, 1) := by decide +kernel
theorem d_Te_readAll_1 : decode b_Te_readAll 1 = .ok (.iconst 0, 1) := by decide +kernel
theorem d_Te_readAll_2 : decode b_Te_readAll 2 = .ok (.putfield 9, 3) := by decide +kernel
theorem d_Te_readAll_5 : decode b_Te_readAll 5 = .ok (.iload_n 3, 1) := by decide +kernel
theorem d_Te_readAll_6 : decode b_Te_readAll 6 = .ok (.iload_n 2, 1) := by decide +kernel
theorem d_Te_readAll_7 : decode b_Te_readAll 7 = .ok (.isub, 1) := by decide +kernel
theorem d_Te_readAll_8 : decode b_Te_readAll 8 = .ok (.iconst 3, 1) := by decide +kernel
theorem d_Te_readAll_9 : decode b_Te_readAll 9 = .ok (.if_icmp .ne 18, 3) := by decide +kernel
theorem d_Te_readAll_12 : decode b_Te_readAll 12 = .ok (.aload_n 1, 1) := by decide +kernel
theorem d_Te_readAll_13 : decode b_Te_readAll 13 = .ok (.ldc 77, 2) := by decide +kernel
theorem d_Te_readAll_15 : decode b_Te_readAll 15 = .ok (.iload_n 2, 1) := by decide +kernel
theorem d_Te_readAll_16 : decode b_Te_readAll 16 = .ok (.iload_n 3, 1) := by decide +kernel
theorem d_Te_readAll_17 : decode b_Te_readAll 17 = .ok (.invokevirtual 50, 3) := by decide +kernel
theorem d_Te_readAll_20 : decode b_Te_readAll 20 = .ok (.ifCond .eq 7, 3) := by decide +kernel
theorem d_Te_readAll_23 : decode b_Te_readAll 23 = .ok (.iconst 1, 1) := by decide +kernel
theorem d_Te_readAll_24 : decode b_Te_readAll 24 = .ok (.goto 4, 3) := by decide +kernel
theorem d_Te_readAll_27 : decode b_Te_readAll 27 = .ok (.iconst 0, 1) := by decide +kernel
theorem d_Te_readAll_28 : decode b_Te_readAll 28 = .ok (.ireturn, 1) := by decide +kernel
theorem d_Te_readBits_0 : decode b_Te_readBits 0 = .ok (.iload_n 3, 1) := by decide +kernel
theorem d_Te_readBits_1 : decode b_Te_readBits 1 = .ok (.iload_n 2, 1) := by decide +kernel
theorem d_Te_readBits_2 : decode b_Te_readBits 2 = .ok (.if_icmp .le 10, 3) := by decide +kernel
theorem d_Te_readBits_5 : decode b_Te_readBits 5 = .ok (.iload_n 3, 1) := by decide +kernel
theorem d_Te_readBits_6 : decode b_Te_readBits 6 = .ok (.iload_n 2, 1) := by decide +kernel
theorem d_Te_readBits_7 : decode b_Te_readBits 7 = .ok (.isub, 1) := by decide +kernel
theorem d_Te_readBits_8 : decode b_Te_readBits 8 = .ok (.iconst 2, 1) := by decide +kernel
theorem d_Te_readBits_9 : decode b_Te_readBits 9 = .ok (.if_icmp .le 5, 3) := by decide +kernel
theorem d_Te_readBits_12 : decode b_Te_readBits 12 = .ok (.iconst 0, 1) := by decide +kernel
theorem d_Te_readBits_13 : decode b_Te_readBits 13 = .ok (.ireturn, 1) := by decide +kernel
theorem d_Te_readBits_14 : decode b_Te_readBits 14 = .ok (.aload_n 0, 1) := by decide +kernel
theorem d_Te_readBits_15 : decode b_Te_readBits 15 = .ok (.iconst 0, 1) := by decide +kernel
theorem d_Te_readBits_16 : decode b_Te_readBits 16 = .ok (.putfield 15, 3) := by decide +kernel
theorem d_Te_readBits_19 : decode b_Te_readBits 19 = .ok (.iload_n 2, 1) := by decide +kernel
theorem d_Te_readBits_20 : decode b_Te_readBits 20 = .ok (.istore 4, 2) := by decide +kernel
theorem d_Te_readBits_22 : decode b_Te_readBits 22 = .ok (.iload 4, 2) := by decide +kernel
theorem d_Te_readBits_24 : decode b_Te_readBits 24 = .ok (.iload_n 3, 1) := by decide +kernel
theorem d_Te_readBits_25 : decode b_Te_readBits 25 = .ok (.if_icmp .ge 44, 3) := by decide +kernel
theorem d_Te_readBits_28 : decode b_Te_readBits 28 = .ok (.aload_n 1, 1) := by decide +kernel
theorem d_Te_readBits_29 : decode b_Te_readBits 29 = .ok (.iload 4, 2) := by decide +kernel
theorem d_Te_readBits_31 : decode b_Te_readBits 31 = .ok (.invokevirtual 30, 3) := by decide +kernel
theorem d_Te_readBits_34 : decode b_Te_readBits 34 = .ok (.invokestatic 95, 3) := by decide +kernel
theorem d_Te_readBits_37 : decode b_Te_readBits 37 = .ok (.ifCond .ne 5, 3) := by decide +kernel
theorem d_Te_readBits_40 : decode b_Te_readBits 40 = .ok (.iconst 0, 1) := by decide +kernel
theorem d_Te_readBits_41 : decode b_Te_readBits 41 = .ok (.ireturn, 1) := by decide +kernel
theorem d_Te_readBits_42 : decode b_Te_readBits 42 = .ok (.aload_n 0, 1) := by decide +kernel
theorem d_Te_readBits_43 : decode b_Te_readBits 43 = .ok (.aload_n 0, 1) := by decide +kernel
theorem d_Te_readBits_44 : decode b_Te_readBits 44 = .ok (.getfield 15, 3) := by decide +kernel
theorem d_Te_readBits_47 : decode b_Te_readBits 47 = .ok (.bipush 10, 2) := by decide +kernel
theorem d_Te_readBits_49 : decode b_Te_readBits 49 = .ok (.imul, 1) := by decide +kernel
theorem d_Te_readBits_50 : decode b_Te_readBits 50 = .ok (.aload_n 1, 1) := by decide +kernel
theorem d_Te_readBits_51 : decode b_Te_readBits 51 = .ok (.iload 4, 2) := by decide +kernel
theorem d_Te_readBits_53 : decode b_Te_readBits 53 = .ok (.invokevirtual 30, 3) := by decide +kernel
theorem d_Te_readBits_56 : decode b_Te_readBits 56 = .ok (.iadd, 1) := by decide +kernel
theorem d_Te_readBits_57 : decode b_Te_readBits 57 = .ok (.bipush 48, 2) := by decide +kernel
theorem d_Te_readBits_59 : decode b_Te_readBits 59 = .ok (.isub, 1) := by decide +kernel
theorem d_Te_readBits_60 : decode b_Te_readBits 60 = .ok (.putfield 15, 3) := by decide +kernel
theorem d_Te_readBits_63 : decode b_Te_readBits 63 = .ok (.iinc 4 1, 3) := by decide +kernel
theorem d_Te_readBits_66 : decode b_Te_readBits 66 = .ok (.goto (-44), 3) := by decide +kernel
theorem d_Te_readBits_69 : decode b_Te_readBits 69 = .ok (.aload_n 0, 1) := by decide +kernel
theorem d_Te_readBits_70 : decode b_Te_readBits 70 = .ok (.getfield 15, 3) := by decide +kernel
theorem d_Te_readBits_73 : decode b_Te_readBits 73 = .ok (.bipush 32, 2) := by decide +kernel
theorem d_Te_readBits_75 : decode b_Te_readBits 75 = .ok (.if_icmp .gt 7, 3) := by decide +kernel
theorem d_Te_readBits_78 : decode b_Te_readBits 78 = .ok (.iconst 1, 1) := by decide +kernel
theorem d_Te_readBits_79 : decode b_Te_readBits 79 = .ok (.goto 4, 3) := by decide +kernel
theorem d_Te_readBits_82 : decode b_Te_readBits 82 = .ok (.iconst 0, 1) := by decide +kernel
theorem d_Te_readBits_83 : decode b_Te_readBits 83 = .ok (.ireturn, 1) := by decide +kernel
theorem d_Te_readFour_0 : decode b_Te_readFour 0 = .ok (.iconst 0, 1) := by decide +kernel
theorem d_Te_readFour_1 : decode b_Te_readFour 1 = .ok (.istore 4, 2) := by decide +kernel
theorem d_Te_readFour_3 : decode b_Te_readFour 3 = .ok (.iconst 0, 1) := by decide +kernel
theorem d_Te_readFour_4 : decode b_Te_readFour 4 = .ok (.istore 5, 2) := by decide +kernel
theorem d_Te_readFour_6 : decode b_Te_readFour 6 = .ok (.iconst 0, 1) := by decide +kernel
theorem d_Te_readFour_7 : decode b_Te_readFour 7 = .ok (.istore 6, 2) := by decide +kernel
theorem d_Te_readFour_9 : decode b_Te_readFour 9 = .ok (.aload_n 0, 1) := by decide +kernel
theorem d_Te_readFour_10 : decode b_Te_readFour 10 = .ok (.iconst 0, 1) := by decide +kernel
theorem d_Te_readFour_11 : decode b_Te_readFour 11 = .ok (.putfield 18, 3) := by decide +kernel
theorem d_Te_readFour_14 : decode b_Te_readFour 14 = .ok (.iload_n 2, 1) := by decide +kernel
theorem d_Te_readFour_15 : decode b_Te_readFour 15 = .ok (.istore 7, 2) := by decide +kernel
theorem d_Te_readFour_17 : decode b_Te_readFour 17 = .ok (.iload 7, 2) := by decide +kernel
theorem d_Te_readFour_19 : decode b_Te_readFour 19 = .ok (.iload_n 3, 1) := by decide +kernel
theorem d_Te_readFour_20 : decode b_Te_readFour 20 = .ok (.if_icmp .ge 106, 3) := by decide +kernel
theorem d_Te_readFour_23 : decode b_Te_readFour 23 = .ok (.aload_n 1, 1) := by decide +kernel
theorem d_Te_readFour_24 : decode b_Te_readFour 24 = .ok (.iload 7, 2) := by decide +kernel
theorem d_Te_readFour_26 : decode b_Te_readFour 26 = .ok (.invokevirtual 30, 3) := by decide +kernel
theorem d_Te_readFour_29 : decode b_Te_readFour 29 = .ok (.istore 8, 2) := by decide +kernel
theorem d_Te_readFour_31 : decode b_Te_readFour 31 = .ok (.iload 8, 2) := by decide +kernel
theorem d_Te_readFour_33 : decode b_Te_readFour 33 = .ok (.invokestatic 95, 3) := by decide +kernel
theorem d_Te_readFour_36 : decode b_Te_readFour 36 = .ok (.ifCond .eq 28, 3) := by decide +kernel
theorem d_Te_readFour_39 : decode b_Te_readFour 39 = .ok (.iload 5, 2) := by decide +kernel
theorem d_Te_readFour_41 : decode b_Te_readFour 41 = .ok (.iconst 3, 1) := by decide +kernel
theorem d_Te_readFour_42 : decode b_Te_readFour 42 = .ok (.if_icmp .ge 22, 3) := by decide +kernel
theorem d_Te_readFour_45 : decode b_Te_readFour 45 = .ok (.iinc 5 1, 3) := by decide +kernel
theorem d_Te_readFour_48 : decode b_Te_readFour 48 = .ok (.iload 6, 2) := by decide +kernel
theorem d_Te_readFour_50 : decode b_Te_readFour 50 = .ok (.bipush 10, 2) := by decide +kernel
theorem d_Te_readFour_52 : decode b_Te_readFour 52 = .ok (.imul, 1) := by decide +kernel
theorem d_Te_readFour_53 : decode b_Te_readFour 53 = .ok (.iload 8, 2) := by decide +kernel
theorem d_Te_readFour_55 : decode b_Te_readFour 55 = .ok (.iadd, 1) := by decide +kernel
theorem d_Te_readFour_56 : decode b_Te_readFour 56 = .ok (.bipush 48, 2) := by decide +kernel
theorem d_Te_readFour_58 : decode b_Te_readFour 58 = .ok (.isub, 1) := by decide +kernel
theorem d_Te_readFour_59 : decode b_Te_readFour 59 = .ok (.istore 6, 2) := by decide +kernel
theorem d_Te_readFour_61 : decode b_Te_readFour 61 = .ok (.goto 49, 3) := by decide +kernel
theorem d_Te_readFour_64 : decode b_Te_readFour 64 = .ok (.iload 8, 2) := by decide +kernel
theorem d_Te_readFour_66 : decode b_Te_readFour 66 = .ok (.bipush 46, 2) := by decide +kernel
theorem d_Te_readFour_68 : decode b_Te_readFour 68 = .ok (.if_icmp .ne 40, 3) := by decide +kernel
theorem d_Te_readFour_71 : decode b_Te_readFour 71 = .ok (.iload 5, 2) := by decide +kernel
theorem d_Te_readFour_73 : decode b_Te_readFour 73 = .ok (.ifCond .le 35, 3) := by decide +kernel
theorem d_Te_readFour_76 : decode b_Te_readFour 76 = .ok (.iload 4, 2) := by decide +kernel
theorem d_Te_readFour_78 : decode b_Te_readFour 78 = .ok (.iconst 3, 1) := by decide +kernel
theorem d_Te_readFour_79 : decode b_Te_readFour 79 = .ok (.if_icmp .ge 29, 3) := by decide +kernel
theorem d_Te_readFour_82 : decode b_Te_readFour 82 = .ok (.aload_n 0, 1) := by decide +kernel
theorem d_Te_readFour_83 : decode b_Te_readFour 83 = .ok (.aload_n 0, 1) := by decide +kernel
theorem d_Te_readFour_84 : decode b_Te_readFour 84 = .ok (.getfield 18, 3) := by decide +kernel
theorem d_Te_readFour_87 : decode b_Te_readFour 87 = .ok (.bipush 8, 2) := by decide +kernel
theorem d_Te_readFour_89 : decode b_Te_readFour 89 = .ok (.ishl, 1) := by decide +kernel
theorem d_Te_readFour_90 : decode b_Te_readFour 90 = .ok (.iload 6, 2) := by decide +kernel
theorem d_Te_readFour_92 : decode b_Te_readFour 92 = .ok (.ior, 1) := by decide +kernel
theorem d_Te_readFour_93 : decode b_Te_readFour 93 = .ok (.putfield 18, 3) := by decide +kernel
theorem d_Te_readFour_96 : decode b_Te_readFour 96 = .ok (.iinc 4 1, 3) := by decide +kernel
theorem d_Te_readFour_99 : decode b_Te_readFour 99 = .ok (.iconst 0, 1) := by decide +kernel
theorem d_Te_readFour_100 : decode b_Te_readFour 100 = .ok (.istore 5, 2) := by decide +kernel
theorem d_Te_readFour_102 : decode b_Te_readFour 102 = .ok (.iconst 0, 1) := by decide +kernel
theorem d_Te_readFour_103 : decode b_Te_readFour 103 = .ok (.istore 6, 2) := by decide +kernel
theorem d_Te_readFour_105 : decode b_Te_readFour 105 = .ok (.goto 5, 3) := by decide +kernel
theorem d_Te_readFour_108 : decode b_Te_readFour 108 = .ok (.iconst 0, 1) := by decide +kernel
theorem d_Te_readFour_109 : decode b_Te_readFour 109 = .ok (.ireturn, 1) := by decide +kernel
theorem d_Te_readFour_110 : decode b_Te_readFour 110 = .ok (.iload 6, 2) := by decide +kernel
theorem d_Te_readFour_112 : decode b_Te_readFour 112 = .ok (.sipush 255, 3) := by decide +kernel
theorem d_Te_readFour_115 : decode b_Te_readFour 115 = .ok (.if_icmp .le 5, 3) := by decide +kernel
theorem d_Te_readFour_118 : decode b_Te_readFour 118 = .ok (.iconst 0, 1) := by decide +kernel
theorem d_Te_readFour_119 : decode b_Te_readFour 119 = .ok (.ireturn, 1) := by decide +kernel
theorem d_Te_readFour_120 : decode b_Te_readFour 120 = .ok (.iinc 7 1, 3) := by decide +kernel
theorem d_Te_readFour_123 : decode b_Te_readFour 123 = .ok (.goto (-106), 3) := by decide +kernel
theorem d_Te_readFour_126 : decode b_Te_readFour 126 = .ok (.aload_n 0, 1) := by decide +kernel
theorem d_Te_readFour_127 : decode b_Te_readFour 127 = .ok (.aload_n 0, 1) := by decide +kernel
theorem d_Te_readFour_128 : decode b_Te_readFour 128 = .ok (.getfield 18, 3) := by decide +kernel
theorem d_Te_readFour_131 : decode b_Te_readFour 131 = .ok (.bipush 8, 2) := by decide +kernel
theorem d_Te_readFour_133 : decode b_Te_readFour 133 = .ok (.ishl, 1) := by decide +kernel
theorem d_Te_readFour_134 : decode b_Te_readFour 134 = .ok (.iload 6, 2) := by decide +kernel
theorem d_Te_readFour_136 : decode b_Te_readFour 136 = .ok (.ior, 1) := by decide +kernel
theorem d_Te_readFour_137 : decode b_Te_readFour 137 = .ok (.putfield 18, 3) := by decide +kernel
theorem d_Te_readFour_140 : decode b_Te_readFour 140 = .ok (.iload 4, 2) := by decide +kernel
theorem d_Te_readFour_142 : decode b_Te_readFour 142 = .ok (.iconst 3, 1) := by decide +kernel
theorem d_Te_readFour_143 : decode b_Te_readFour 143 = .ok (.if_icmp .ne 12, 3) := by decide +kernel
theorem d_Te_readFour_146 : decode b_Te_readFour 146 = .ok (.iload 5, 2) := by decide +kernel
theorem d_Te_readFour_148 : decode b_Te_readFour 148 = .ok (.ifCond .le 7, 3) := by decide +kernel
theorem d_Te_readFour_151 : decode b_Te_readFour 151 = .ok (.iconst 1, 1) := by decide +kernel
theorem d_Te_readFour_152 : decode b_Te_readFour 152 = .ok (.goto 4, 3) := by decide +kernel
theorem d_Te_readFour_155 : decode b_Te_readFour 155 = .ok (.iconst 0, 1) := by decide +kernel
theorem d_Te_readFour_156 : decode b_Te_readFour 156 = .ok (.ireturn, 1) := by decide +kernel
theorem d_Te_readHost_0 : decode b_Te_readHost 0 = .ok (.aload_n 0, 1) := by decide +kernel
theorem d_Te_readHost_1 : decode b_Te_readHost 1 = .ok (.iload_n 1, 1) := by decide +kernel
theorem d_Te_readHost_2 : decode b_Te_readHost 2 = .ok (.putfield 9, 3) := by decide +kernel
theorem d_Te_readHost_5 : decode b_Te_readHost 5 = .ok (.aload_n 2, 1) := by decide +kernel
theorem d_Te_readHost_6 : decode b_Te_readHost 6 = .ok (.bipush 47, 2) := by decide +kernel
theorem d_Te_readHost_8 : decode b_Te_readHost 8 = .ok (.iload_n 3, 1) := by decide +kernel
theorem d_Te_readHost_9 : decode b_Te_readHost 9 = .ok (.iload 4, 2) := by decide +kernel
theorem d_Te_readHost_11 : decode b_Te_readHost 11 = .ok (.invokevirtual 40, 3) := by decide +kernel
theorem d_Te_readHost_14 : decode b_Te_readHost 14 = .ok (.istore 5, 2) := by decide +kernel
theorem d_Te_readHost_16 : decode b_Te_readHost 16 = .ok (.iload_n 3, 1) := by decide +kernel
theorem d_Te_readHost_17 : decode b_Te_readHost 17 = .ok (.iload 5, 2) := by decide +kernel
theorem d_Te_readHost_19 : decode b_Te_readHost 19 = .ok (.if_icmp .ge 43, 3) := by decide +kernel
theorem d_Te_readHost_22 : decode b_Te_readHost 22 = .ok (.aload_n 0, 1) := by decide +kernel
theorem d_Te_readHost_23 : decode b_Te_readHost 23 = .ok (.iload_n 3, 1) := by decide +kernel
theorem d_Te_readHost_24 : decode b_Te_readHost 24 = .ok (.iconst 1, 1) := by decide +kernel
theorem d_Te_readHost_25 : decode b_Te_readHost 25 = .ok (.iadd, 1) := by decide +kernel
theorem d_Te_readHost_26 : decode b_Te_readHost 26 = .ok (.putfield 21, 3) := by decide +kernel
theorem d_Te_readHost_29 : decode b_Te_readHost 29 = .ok (.aload_n 0, 1) := by decide +kernel
theorem d_Te_readHost_30 : decode b_Te_readHost 30 = .ok (.iload 5, 2) := by decide +kernel
theorem d_Te_readHost_32 : decode b_Te_readHost 32 = .ok (.putfield 24, 3) := by decide +kernel
theorem d_Te_readHost_35 : decode b_Te_readHost 35 = .ok (.aload_n 2, 1) := by decide +kernel
theorem d_Te_readHost_36 : decode b_Te_readHost 36 = .ok (.iload_n 3, 1) := by decide +kernel
theorem d_Te_readHost_37 : decode b_Te_readHost 37 = .ok (.invokevirtual 30, 3) := by decide +kernel
theorem d_Te_readHost_40 : decode b_Te_readHost 40 = .ok (.bipush 58, 2) := by decide +kernel
theorem d_Te_readHost_42 : decode b_Te_readHost 42 = .ok (.if_icmp .ne 18, 3) := by decide +kernel
theorem d_Te_readHost_45 : decode b_Te_readHost 45 = .ok (.aload_n 2, 1) := by decide +kernel
theorem d_Te_readHost_46 : decode b_Te_readHost 46 = .ok (.aload_n 0, 1) := by decide +kernel
theorem d_Te_readHost_47 : decode b_Te_readHost 47 = .ok (.getfield 21, 3) := by decide +kernel
theorem d_Te_readHost_50 : decode b_Te_readHost 50 = .ok (.aload_n 0, 1) := by decide +kernel
theorem d_Te_readHost_51 : decode b_Te_readHost 51 = .ok (.getfield 24, 3) := by decide +kernel
theorem d_Te_readHost_54 : decode b_Te_readHost 54 = .ok (.invokestatic 84, 3) := by decide +kernel
theorem d_Te_readHost_57 : decode b_Te_readHost 57 = .ok (.ifCond .ne 5, 3) := by decide +kernel
theorem d_Te_readHost_60 : decode b_Te_readHost 60 = .ok (.iconst 0, 1) := by decide +kernel
theorem d_Te_readHost_61 : decode b_Te_readHost 61 = .ok (.ireturn, 1) := by decide +kernel
theorem d_Te_readHost_62 : decode b_Te_readHost 62 = .ok (.iload 5, 2) := by decide +kernel
theorem d_Te_readHost_64 : decode b_Te_readHost 64 = .ok (.iload 4, 2) := by decide +kernel
theorem d_Te_readHost_66 : decode b_Te_readHost 66 = .ok (.if_icmp .eq 17, 3) := by decide +kernel
theorem d_Te_readHost_69 : decode b_Te_readHost 69 = .ok (.aload_n 0, 1) := by decide +kernel
theorem d_Te_readHost_70 : decode b_Te_readHost 70 = .ok (.aload_n 2, 1) := by decide +kernel
theorem d_Te_readHost_71 : decode b_Te_readHost 71 = .ok (.iload 5, 2) := by decide +kernel
theorem d_Te_readHost_73 : decode b_Te_readHost 73 = .ok (.iconst 1, 1) := by decide +kernel
theorem d_Te_readHost_74 : decode b_Te_readHost 74 = .ok (.iadd, 1) := by decide +kernel
theorem d_Te_readHost_75 : decode b_Te_readHost 75 = .ok (.iload 4, 2) := by decide +kernel
theorem d_Te_readHost_77 : decode b_Te_readHost 77 = .ok (.invokevirtual 89, 3) := by decide +kernel
theorem d_Te_readHost_80 : decode b_Te_readHost 80 = .ok (.ifCond .eq 7, 3) := by decide +kernel
theorem d_Te_readHost_83 : decode b_Te_readHost 83 = .ok (.iconst 1, 1) := by decide +kernel
theorem d_Te_readHost_84 : decode b_Te_readHost 84 = .ok (.goto 4, 3) := by decide +kernel
theorem d_Te_readHost_87 : decode b_Te_readHost 87 = .ok (.iconst 0, 1) := by decide +kernel
theorem d_Te_readHost_88 : decode b_Te_readHost 88 = .ok (.ireturn, 1) := by decide +kernel
theorem d_Te_readNetwork_0 : decode b_Te_readNetwork 0 = .ok (.aload_n 0, 1) := by decide +kernel
theorem d_Te_readNetwork_1 : decode b_Te_readNetwork 1 = .ok (.iconst 4, 1) := by decide +kernel
theorem d_Te_readNetwork_2 : decode b_Te_readNetwork 2 = .ok (.putfield 9, 3) := by decide +kernel
theorem d_Te_readNetwork_5 : decode b_Te_readNetwork 5 = .ok (.aload_n 1, 1) := by decide +kernel
theorem d_Te_readNetwork_6 : decode b_Te_readNetwork 6 = .ok (.bipush 47, 2) := by decide +kernel
theorem d_Te_readNetwork_8 : decode b_Te_readNetwork 8 = .ok (.iload_n 2, 1) := by decide +kernel
theorem d_Te_readNetwork_9 : decode b_Te_readNetwork 9 = .ok (.iload_n 3, 1) := by decide +kernel
theorem d_Te_readNetwork_10 : decode b_Te_readNetwork 10 = .ok (.invokevirtual 40, 3) := by decide +kernel
theorem d_Te_readNetwork_13 : decode b_Te_readNetwork 13 = .ok (.istore 4, 2) := by decide +kernel
theorem d_Te_readNetwork_15 : decode b_Te_readNetwork 15 = .ok (.aload_n 0, 1) := by decide +kernel
theorem d_Te_readNetwork_16 : decode b_Te_readNetwork 16 = .ok (.aload_n 1, 1) := by decide +kernel
theorem d_Te_readNetwork_17 : decode b_Te_readNetwork 17 = .ok (.iload_n 2, 1) := by decide +kernel
theorem d_Te_readNetwork_18 : decode b_Te_readNetwork 18 = .ok (.iload 4, 2) := by decide +kernel
theorem d_Te_readNetwork_20 : decode b_Te_readNetwork 20 = .ok (.invokevirtual 92, 3) := by decide +kernel
theorem d_Te_readNetwork_23 : decode b_Te_readNetwork 23 = .ok (.ifCond .eq 26, 3) := by decide +kernel
theorem d_Te_readNetwork_26 : decode b_Te_readNetwork 26 = .ok (.iload 4, 2) := by decide +kernel
theorem d_Te_readNetwork_28 : decode b_Te_readNetwork 28 = .ok (.iload_n 3, 1) := by decide +kernel
theorem d_Te_readNetwork_29 : decode b_Te_readNetwork 29 = .ok (.if_icmp .eq 16, 3) := by decide +kernel
theorem d_Te_readNetwork_32 : decode b_Te_readNetwork 32 = .ok (.aload_n 0, 1) := by decide +kernel
theorem d_Te_readNetwork_33 : decode b_Te_readNetwork 33 = .ok (.aload_n 1, 1) := by decide +kernel
theorem d_Te_readNetwork_34 : decode b_Te_readNetwork 34 = .ok (.iload 4, 2) := by decide +kernel
theorem d_Te_readNetwork_36 : decode b_Te_readNetwork 36 = .ok (.iconst 1, 1) := by decide +kernel
theorem d_Te_readNetwork_37 : decode b_Te_readNetwork 37 = .ok (.iadd, 1) := by decide +kernel
theorem d_Te_readNetwork_38 : decode b_Te_readNetwork 38 = .ok (.iload_n 3, 1) := by decide +kernel
theorem d_Te_readNetwork_39 : decode b_Te_readNetwork 39 = .ok (.invokevirtual 89, 3) := by decide +kernel
theorem d_Te_readNetwork_42 : decode b_Te_readNetwork 42 = .ok (.ifCond .eq 7, 3) := by decide +kernel
theorem d_Te_readNetwork_45 : decode b_Te_readNetwork 45 = .ok (.iconst 1, 1) := by decide +kernel
theorem d_Te_readNetwork_46 : decode b_Te_readNetwork 46 = .ok (.goto 4, 3) := by decide +kernel
theorem d_Te_readNetwork_49 : decode b_Te_readNetwork 49 = .ok (.iconst 0, 1) := by decide +kernel
theorem d_Te_readNetwork_50 : decode b_Te_readNetwork 50 = .ok (.ireturn, 1) := by decide +kernel
theorem d_Te_readOther_0 : decode b_Te_readOther 0 = .ok (.aload_n 0, 1) := by decide +kernel
theorem d_Te_readOther_1 : decode b_Te_readOther 1 = .ok (.bipush 7, 2) := by decide +kernel
theorem d_Te_readOther_3 : decode b_Te_readOther 3 = .ok (.putfield 9, 3) := by decide +kernel
theorem d_Te_readOther_6 : decode b_Te_readOther 6 = .ok (.aload_n 1, 1) := by decide +kernel
theorem d_Te_readOther_7 : decode b_Te_readOther 7 = .ok (.bipush 61, 2) := by decide +kernel
theorem d_Te_readOther_9 : decode b_Te_readOther 9 = .ok (.iload_n 2, 1) := by decide +kernel
theorem d_Te_readOther_10 : decode b_Te_readOther 10 = .ok (.iload_n 3, 1) := by decide +kernel
theorem d_Te_readOther_11 : decode b_Te_readOther 11 = .ok (.invokevirtual 40, 3) := by decide +kernel
theorem d_Te_readOther_14 : decode b_Te_readOther 14 = .ok (.istore 4, 2) := by decide +kernel
theorem d_Te_readOther_16 : decode b_Te_readOther 16 = .ok (.iload 4, 2) := by decide +kernel
theorem d_Te_readOther_18 : decode b_Te_readOther 18 = .ok (.iload_n 3, 1) := by decide +kernel
theorem d_Te_readOther_19 : decode b_Te_readOther 19 = .ok (.if_icmp .ge 28, 3) := by decide +kernel
theorem d_Te_readOther_22 : decode b_Te_readOther 22 = .ok (.aload_n 1, 1) := by decide +kernel
theorem d_Te_readOther_23 : decode b_Te_readOther 23 = .ok (.iload_n 2, 1) := by decide +kernel
theorem d_Te_readOther_24 : decode b_Te_readOther 24 = .ok (.iload 4, 2) := by decide +kernel
theorem d_Te_readOther_26 : decode b_Te_readOther 26 = .ok (.invokestatic 79, 3) := by decide +kernel
theorem d_Te_readOther_29 : decode b_Te_readOther 29 = .ok (.ifCond .eq 18, 3) := by decide +kernel
theorem d_Te_readOther_32 : decode b_Te_readOther 32 = .ok (.aload_n 1, 1) := by decide +kernel
theorem d_Te_readOther_33 : decode b_Te_readOther 33 = .ok (.ldc 72, 2) := by decide +kernel
theorem d_Te_readOther_35 : decode b_Te_readOther 35 = .ok (.iload_n 2, 1) := by decide +kernel
theorem d_Te_readOther_36 : decode b_Te_readOther 36 = .ok (.iload_n 3, 1) := by decide +kernel
theorem d_Te_readOther_37 : decode b_Te_readOther 37 = .ok (.invokevirtual 50, 3) := by decide +kernel
theorem d_Te_readOther_40 : decode b_Te_readOther 40 = .ok (.ifCond .ne 7, 3) := by decide +kernel
theorem d_Te_readOther_43 : decode b_Te_readOther 43 = .ok (.iconst 1, 1) := by decide +kernel
theorem d_Te_readOther_44 : decode b_Te_readOther 44 = .ok (.goto 4, 3) := by decide +kernel
theorem d_Te_readOther_47 : decode b_Te_readOther 47 = .ok (.iconst 0, 1) := by decide +kernel
theorem d_Te_readOther_48 : decode b_Te_readOther 48 = .ok (.ireturn, 1) := by decide +kernel
theorem d_Te_readTarget_0 : decode b_Te_readTarget 0 = .ok (.aload_n 0, 1) := by decide +kernel
theorem d_Te_readTarget_1 : decode b_Te_readTarget 1 = .ok (.iload_n 1, 1) := by decide +kernel
theorem d_Te_readTarget_2 : decode b_Te_readTarget 2 = .ok (.putfield 9, 3) := by decide +kernel
theorem d_Te_readTarget_5 : decode b_Te_readTarget 5 = .ok (.aload_n 0, 1) := by decide +kernel
theorem d_Te_readTarget_6 : decode b_Te_readTarget 6 = .ok (.iload_n 3, 1) := by decide +kernel
theorem d_Te_readTarget_7 : decode b_Te_readTarget 7 = .ok (.putfield 21, 3) := by decide +kernel
theorem d_Te_readTarget_10 : decode b_Te_readTarget 10 = .ok (.aload_n 0, 1) := by decide +kernel
theorem d_Te_readTarget_11 : decode b_Te_readTarget 11 = .ok (.iload 4, 2) := by decide +kernel
theorem d_Te_readTarget_13 : decode b_Te_readTarget 13 = .ok (.putfield 24, 3) := by decide +kernel
theorem d_Te_readTarget_16 : decode b_Te_readTarget 16 = .ok (.aload_n 2, 1) := by decide +kernel
theorem d_Te_readTarget_17 : decode b_Te_readTarget 17 = .ok (.iload_n 3, 1) := by decide +kernel
theorem d_Te_readTarget_18 : decode b_Te_readTarget 18 = .ok (.iload 4, 2) := by decide +kernel
theorem d_Te_readTarget_20 : decode b_Te_readTarget 20 = .ok (.invokestatic 84, 3) := by decide +kernel
theorem d_Te_readTarget_23 : decode b_Te_readTarget 23 = .ok (.ireturn, 1) := by decide +kernel
theorem d_Te_startsAt_0 : decode b_Te_startsAt 0 = .ok (.aload_n 0, 1) := by decide +kernel
theorem d_Te_startsAt_1 : decode b_Te_startsAt 1 = .ok (.iload_n 1, 1) := by decide +kernel
theorem d_Te_startsAt_2 : decode b_Te_startsAt 2 = .ok (.invokevirtual 30, 3) := by decide +kernel
theorem d_Te_startsAt_5 : decode b_Te_startsAt 5 = .ok (.bipush 32, 2) := by decide +kernel
theorem d_Te_startsAt_7 : decode b_Te_startsAt 7 = .ok (.if_icmp .eq 19, 3) := by decide +kernel
theorem d_Te_startsAt_10 : decode b_Te_startsAt 10 = .ok (.aload_n 0, 1) := by decide +kernel
theorem d_Te_startsAt_11 : decode b_Te_startsAt 11 = .ok (.iload_n 1, 1) := by decide +kernel
theorem d_Te_startsAt_12 : decode b_Te_startsAt 12 = .ok (.iconst 1, 1) := by decide +kernel
theorem d_Te_startsAt_13 : decode b_Te_startsAt 13 = .ok (.isub, 1) := by decide +kernel
theorem d_Te_startsAt_14 : decode b_Te_startsAt 14 = .ok (.invokevirtual 30, 3) := by decide +kernel
theorem d_Te_startsAt_17 : decode b_Te_startsAt 17 = .ok (.bipush 32, 2) := by decide +kernel
theorem d_Te_startsAt_19 : decode b_Te_startsAt 19 = .ok (.if_icmp .ne 7, 3) := by decide +kernel
theorem d_Te_startsAt_22 : decode b_Te_startsAt 22 = .ok (.iconst 1, 1) := by decide +kernel
theorem d_Te_startsAt_23 : decode b_Te_startsAt 23 = .ok (.goto 4, 3) := by decide +kernel
theorem d_Te_startsAt_26 : decode b_Te_startsAt 26 = .ok (.iconst 0, 1) := by decide +kernel
theorem d_Te_startsAt_27 : decode b_Te_startsAt 27 = .ok (.ireturn, 1) := by decide +kernel
theorem d_Te_to_0 : decode b_Te_to 0 = .ok (.aload_n 0, 1) := by decide +kernel
theorem d_Te_to_1 : decode b_Te_to 1 = .ok (.getfield 24, 3) := by decide +kernel
theorem d_Te_to_4 : decode b_Te_to 4 = .ok (.ireturn, 1) := by decide +kernel
theorem d_Te_verdict_0 : decode b_Te_verdict 0 = .ok (.aload_n 0, 1) := by decide +kernel
theorem d_Te_verdict_1 : decode b_Te_verdict 1 = .ok (.getfield 27, 3) := by decide +kernel
theorem d_Te_verdict_4 : decode b_Te_verdict 4 = .ok (.lookupswitch 42 #[(45, 36), (63, 40), (126, 38)], 36) := by decide +kernel
theorem d_Te_verdict_40 : decode b_Te_verdict 40 = .ok (.iconst 3, 1) := by decide +kernel
theorem d_Te_verdict_41 : decode b_Te_verdict 41 = .ok (.ireturn, 1) := by decide +kernel
theorem d_Te_verdict_42 : decode b_Te_verdict 42 = .ok (.iconst 4, 1) := by decide +kernel
theorem d_Te_verdict_43 : decode b_Te_verdict 43 = .ok (.ireturn, 1) := by decide +kernel
theorem d_Te_verdict_44 : decode b_Te_verdict 44 = .ok (.iconst 1, 1) := by decide +kernel
theorem d_Te_verdict_45 : decode b_Te_verdict 45 = .ok (.ireturn, 1) := by decide +kernel
theorem d_Te_verdict_46 : decode b_Te_verdict 46 = .ok (.iconst 2, 1) := by decide +kernel
theorem d_Te_verdict_47 : decode b_Te_verdict 47 = .ok (.ireturn, 1) := by decide +kernel
end
section
set_option maxHeartbeats 4000000 in
set_option maxRecDepth 100000 in
theorem c_Te_kind {l : Launch} {D : Dg} {b0 : Nat} {M : Mp} {a : Nat} {t : Nat} {k0 : Int} {s0 : Int} {n0 : Int} {w0 : Int32} {f0 : Int} {o0 : Int} (h_obj_a : M a = some (t, .inr (cTe, [vI k0, vI s0, vI n0, .int w0, vI f0, vI o0]))) : OkP l D b0 1 y_Te_kind b_Te_kind 1 (some .int) M [.ref a] (vI k0) := by
  refine Ok_of rfl (Nat.le_of_ble_eq_true rfl) (fun E hC hQ hl hD hB hN hR => ?_)
  subst hl hD hB
  show G E M 0 0 [(0, .ref a)] [] 0
  refine G_aload_n hC 0 rfl rfl d_Te_kind_0 ?_
  refine G_get hC fl_Te_9 h_obj_a rfl d_Te_kind_1 ?_
  exact G_iretP hC hQ d_Te_kind_4 rfl

set_option maxHeartbeats 4000000 in
set_option maxRecDepth 100000 in
theorem c_Te_bits {l : Launch} {D : Dg} {b0 : Nat} {M : Mp} {a : Nat} {t : Nat} {k0 : Int} {s0 : Int} {n0 : Int} {w0 : Int32} {f0 : Int} {o0 : Int} (h_obj_a : M a = some (t, .inr (cTe, [vI k0, vI s0, vI n0, .int w0, vI f0, vI o0]))) : OkP l D b0 1 y_Te_bits b_Te_bits 1 (some .int) M [.ref a] (vI n0) := by
  refine Ok_of rfl (Nat.le_of_ble_eq_true rfl) (fun E hC hQ hl hD hB hN hR => ?_)
  subst hl hD hB
  show G E M 0 0 [(0, .ref a)] [] 0
  refine G_aload_n hC 0 rfl rfl d_Te_bits_0 ?_
  refine G_get hC fl_Te_15 h_obj_a rfl d_Te_bits_1 ?_
  exact G_iretP hC hQ d_Te_bits_4 rfl

set_option maxHeartbeats 4000000 in
set_option maxRecDepth 100000 in
theorem c_Te_from {l : Launch} {D : Dg} {b0 : Nat} {M : Mp} {a : Nat} {t : Nat} {k0 : Int} {s0 : Int} {n0 : Int} {w0 : Int32} {f0 : Int} {o0 : Int} (h_obj_a : M a = some (t, .inr (cTe, [vI k0, vI s0, vI n0, .int w0, vI f0, vI o0]))) : OkP l D b0 1 y_Te_from b_Te_from 1 (some .int) M [.ref a] (vI f0) := by
  refine Ok_of rfl (Nat.le_of_ble_eq_true rfl) (fun E hC hQ hl hD hB hN hR => ?_)
  subst hl hD hB
  show G E M 0 0 [(0, .ref a)] [] 0
  refine G_aload_n hC 0 rfl rfl d_Te_from_0 ?_
  refine G_get hC fl_Te_21 h_obj_a rfl d_Te_from_1 ?_
  exact G_iretP hC hQ d_Te_from_4 rfl

set_option maxHeartbeats 4000000 in
set_option maxRecDepth 100000 in
theorem c_Te_to {l : Launch} {D : Dg} {b0 : Nat} {M : Mp} {a : Nat} {t : Nat} {k0 : Int} {s0 : Int} {n0 : Int} {w0 : Int32} {f0 : Int} {o0 : Int} (h_obj_a : M a = some (t, .inr (cTe, [vI k0, vI s0, vI n0, .int w0, vI f0, vI o0]))) : OkP l D b0 1 y_Te_to b_Te_to 1 (some .int) M [.ref a] (vI o0) := by
  refine Ok_of rfl (Nat.le_of_ble_eq_true rfl) (fun E hC hQ hl hD hB hN hR => ?_)
  subst hl hD hB
  show G E M 0 0 [(0, .ref a)] [] 0
  refine G_aload_n hC 0 rfl rfl d_Te_to_0 ?_
  refine G_get hC fl_Te_24 h_obj_a rfl d_Te_to_1 ?_
  exact G_iretP hC hQ d_Te_to_4 rfl

set_option maxHeartbeats 4000000 in
set_option maxRecDepth 100000 in
theorem c_Te_network {l : Launch} {D : Dg} {b0 : Nat} {M : Mp} {a : Nat} {t : Nat} {k0 : Int} {s0 : Int} {n0 : Int} {w0 : Int32} {f0 : Int} {o0 : Int} (h_obj_a : M a = some (t, .inr (cTe, [vI k0, vI s0, vI n0, .int w0, vI f0, vI o0]))) : OkP l D b0 1 y_Te_network b_Te_network 1 (some .int) M [.ref a] (.int w0) := by
  refine Ok_of rfl (Nat.le_of_ble_eq_true rfl) (fun E hC hQ hl hD hB hN hR => ?_)
  subst hl hD hB
  show G E M 0 0 [(0, .ref a)] [] 0
  refine G_aload_n hC 0 rfl rfl d_Te_network_0 ?_
  refine G_get hC fl_Te_18 h_obj_a rfl d_Te_network_1 ?_
  exact G_xretP hC hQ d_Te_network_4

set_option maxHeartbeats 4000000 in
set_option maxRecDepth 100000 in
theorem c_Te_verdict {l : Launch} {D : Dg} {b0 : Nat} {M : Mp} {a : Nat} {t : Nat} {k0 : Int} {s0 : Int} {n0 : Int} {w0 : Int32} {f0 : Int} {o0 : Int} (h_obj_a : M a = some (t, .inr (cTe, [vI k0, vI s0, vI n0, .int w0, vI f0, vI o0]))) (hs : -2147483648 ≤ s0 ∧ s0 ≤ 2147483647) : OkP l D b0 1 y_Te_verdict b_Te_verdict 1 (some .int) M [.ref a] (vI (verS s0)) := by
  refine Ok_of rfl (Nat.le_of_ble_eq_true rfl) (fun E hC hQ hl hD hB hN hR => ?_)
  subst hl hD hB
  show G E M 0 0 [(0, .ref a)] [] 0
  refine G_aload_n hC 0 rfl rfl d_Te_verdict_0 ?_
  refine G_get hC fl_Te_27 h_obj_a rfl d_Te_verdict_1 ?_
  by_cases c_1 : s0 = 45
  · refine G_look 40 hC (by omega) rfl (by rw [c_1]; try rfl) (by decide) d_Te_verdict_4 ?_
    refine G_iconst (i := 3) hC d_Te_verdict_40 ?_
    exact G_iretP hC hQ d_Te_verdict_41 (by unfold verS; (repeat' split); all_goals omega)
  by_cases c_2 : s0 = 63
  · refine G_look 44 hC (by omega) rfl (by rw [c_2]; try rfl) (by decide) d_Te_verdict_4 ?_
    refine G_iconst (i := 1) hC d_Te_verdict_44 ?_
    exact G_iretP hC hQ d_Te_verdict_45 (by unfold verS; (repeat' split); all_goals omega)
  by_cases c_3 : s0 = 126
  · refine G_look 42 hC (by omega) rfl (by rw [c_3]; try rfl) (by decide) d_Te_verdict_4 ?_
    refine G_iconst (i := 4) hC d_Te_verdict_42 ?_
    exact G_iretP hC hQ d_Te_verdict_43 (by unfold verS; (repeat' split); all_goals omega)
  refine G_look (off := 42) 46 hC (by omega) rfl (by simp only [Op.lookupswitch.offset]; rw [if_neg (by omega), if_neg (by omega), if_neg (by omega)]) (by decide) d_Te_verdict_4 ?_
  refine G_iconst (i := 2) hC d_Te_verdict_46 ?_
  exact G_iretP hC hQ d_Te_verdict_47 (by unfold verS; (repeat' split); all_goals omega)

set_option maxHeartbeats 4000000 in
set_option maxRecDepth 100000 in
theorem c_Te_startsAt {l : Launch} {D : Dg} {b0 : Nat} {M : Mp} {o : Nat} {q : Int} {tt : Nat} {lim : Int} {b : Bv} (h_B_o : IsB D M o tt lim b) (hq : -100000 ≤ q ∧ q ≤ 100000) : OkP l D b0 2 y_Te_startsAt b_Te_startsAt 2 (some .boolean) M [.ref o, vI q] (vI (b2i (decide (¬ atS b.2 q = 32 ∧ atS b.2 (q - 1) = 32)))) := by
  refine Ok_of rfl (Nat.le_of_ble_eq_true rfl) (fun E hC hQ hl hD hB hN hR => ?_)
  subst hl hD hB
  show G E M 0 0 [(0, .ref o), (1, vI q)] [] 0
  refine G_aload_n hC 0 rfl rfl d_Te_startsAt_0 ?_
  refine G_iload_n hC 1 rfl rfl d_Te_startsAt_1 ?_
  refine G_pV (rest := []) hC hR (c_By_at h_B_o (by omega)) cv_Te_30 h_B_o.obj (by decide) (by omega) (by omega) rfl rfl (Nat.le_of_ble_eq_true rfl) d_Te_startsAt_2 ?_
  have g_1 := h_B_o.at_rng q
  refine G_bipush (j := 32) hC (by decide +kernel) d_Te_startsAt_5 ?_
  refine G_icmp_eq hC 26 (by omega) (by decide) (by decide) d_Te_startsAt_7 (fun c_2 => ?_) (fun c_2 => ?_)
  · refine G_iconst (i := 0) hC d_Te_startsAt_26 ?_
    exact G_zretP hC hQ d_Te_startsAt_27 (b2i_f (decide_eq_false (by omega)))
  · refine G_aload_n hC 0 rfl rfl d_Te_startsAt_10 ?_
    refine G_iload_n hC 1 rfl rfl d_Te_startsAt_11 ?_
    refine G_iconst (i := 1) hC d_Te_startsAt_12 ?_
    refine G_isub hC d_Te_startsAt_13 ?_
    refine G_pV (rest := []) hC hR (c_By_at h_B_o (by omega)) cv_Te_30 h_B_o.obj (by decide) (by omega) (by omega) rfl rfl (Nat.le_of_ble_eq_true rfl) d_Te_startsAt_14 ?_
    have g_3 := h_B_o.at_rng (q - 1)
    refine G_bipush (j := 32) hC (by decide +kernel) d_Te_startsAt_17 ?_
    refine G_icmp_ne hC 26 (by omega) (by decide) (by decide) d_Te_startsAt_19 (fun c_4 => ?_) (fun c_4 => ?_)
    · refine G_iconst (i := 0) hC d_Te_startsAt_26 ?_
      exact G_zretP hC hQ d_Te_startsAt_27 (b2i_f (decide_eq_false (by omega)))
    · refine G_iconst (i := 1) hC d_Te_startsAt_22 ?_
      refine G_goto hC 27 (by decide) d_Te_startsAt_23 ?_
      exact G_zretP hC hQ d_Te_startsAt_27 (b2i_t (decide_eq_true (by omega)))

set_option maxHeartbeats 4000000 in
set_option maxRecDepth 100000 in
theorem c_Te_readAll {l : Launch} {D : Dg} {b0 : Nat} {M : Mp} {a : Nat} {o : Nat} {q : Int} {stop : Int} {t : Nat} {k0 : Int} {s0 : Int} {n0 : Int} {w0 : Int32} {f0 : Int} {o0 : Int} {tt : Nat} {lim : Int} {b : Bv} (h_obj_a : M a = some (t, .inr (cTe, [vI k0, vI s0, vI n0, .int w0, vI f0, vI o0]))) (h_B_o : IsB D M o tt lim b) (hq : -100000 ≤ q ∧ q ≤ 100000) (hst : -100000 ≤ stop ∧ stop ≤ 100000) (htt : tt ≠ t ∧ tt + 1 ≠ t) : Ok l D b0 6 y_Te_readAll b_Te_readAll 4 (some .boolean) M [.ref a, .ref o, vI q, vI stop] 0 0 (fun r M' => r = some (vI (b2i (decide (stop - q = 3 ∧ hasS b.2 (wrd 1) q stop = true)))) ∧ M' a = some (t, .inr (cTe, [vI 0, vI s0, vI n0, .int w0, vI f0, vI o0])) ∧ Fr [t] M M') := by
  refine Ok_of rfl (Nat.le_of_ble_eq_true rfl) (fun E hC hQ hl hD hB hN hR => ?_)
  subst hl hD hB
  have hB9 := h_B_o.len
  show G E M 0 0 [(0, .ref a), (1, .ref o), (2, vI q), (3, vI stop)] [] 0
  refine G_aload_n hC 0 rfl rfl d_Te_readAll_0 ?_
  refine G_iconst (i := 0) hC d_Te_readAll_1 ?_
  refine G_putX (fs' := [vI 0, vI s0, vI n0, .int w0, vI f0, vI o0]) hC fl_Te_9 ft_Te fw_Te_0 h_obj_a rfl rfl (Nat.le_of_ble_eq_true rfl) rfl d_Te_readAll_2 (fun M_1 h_2 fr_3 => ?_)
  refine G_iload_n hC 3 rfl rfl d_Te_readAll_5 ?_
  refine G_iload_n hC 2 rfl rfl d_Te_readAll_6 ?_
  refine G_isub hC d_Te_readAll_7 ?_
  refine G_iconst (i := 3) hC d_Te_readAll_8 ?_
  refine G_icmp_ne hC 27 (by omega) (by decide) (by decide) d_Te_readAll_9 (fun c_4 => ?_) (fun c_4 => ?_)
  · refine G_iconst (i := 0) hC d_Te_readAll_27 ?_
    exact G_zretX _ hC hQ (by omega) (by omega) d_Te_readAll_28 (b2i_f (decide_eq_false (fun z => by have z1 := z.1; have z2 := z.2; first | omega | (rw [z2] at c_4; cases c_4)))) ⟨rfl, h_2, (fr_3.up (T := [t]) (by simp))⟩
  · refine G_aload_n hC 1 rfl rfl d_Te_readAll_12 ?_
    refine G_ldcS (tx := "all") (i := 1) hC (by decide) d_Te_readAll_13 ?_
    refine G_iload_n hC 2 rfl rfl d_Te_readAll_15 ?_
    refine G_iload_n hC 3 rfl rfl d_Te_readAll_16 ?_
    have h_5 := h_B_o.fr fr_3 (by simp only [List.mem_cons, List.not_mem_nil, or_false, not_or, not_false_eq_true]; try omega) (by simp only [List.mem_cons, List.not_mem_nil, or_false, not_or, not_false_eq_true]; try omega)
    refine G_pV (rest := []) hC hR (c_By_has h_5 (by decide) (by omega) (by omega)) cv_Te_50 h_5.obj (by decide) (by omega) (by omega) rfl rfl (Nat.le_of_ble_eq_true rfl) d_Te_readAll_17 ?_
    refine G_if_eq hC 27 (by have := b2i_rng (hasS b.2 (wrd 1) q stop); omega) (by decide) d_Te_readAll_20 (fun c_6 => ?_) (fun c_6 => ?_)
    · have c_6 := b2i_eq0.mp c_6
      refine G_iconst (i := 0) hC d_Te_readAll_27 ?_
      exact G_zretX _ hC hQ (by omega) (by omega) d_Te_readAll_28 (b2i_f (decide_eq_false (fun z => by have z1 := z.1; have z2 := z.2; first | omega | (rw [z2] at c_6; cases c_6)))) ⟨rfl, h_2, (fr_3.up (T := [t]) (by simp))⟩
    · have c_6 := b2i_ne0.mp c_6
      refine G_iconst (i := 1) hC d_Te_readAll_23 ?_
      refine G_goto hC 28 (by decide) d_Te_readAll_24 ?_
      exact G_zretX _ hC hQ (by omega) (by omega) d_Te_readAll_28 (b2i_t (decide_eq_true ⟨c_4, c_6⟩)) ⟨rfl, h_2, (fr_3.up (T := [t]) (by simp))⟩

set_option maxHeartbeats 4000000 in
set_option maxRecDepth 100000 in
theorem c_Te_readTarget {l : Launch} {D : Dg} {b0 : Nat} {M : Mp} {a : Nat} {rd : Int} {o : Nat} {q : Int} {stop : Int} {t : Nat} {k0 : Int} {s0 : Int} {n0 : Int} {w0 : Int32} {f0 : Int} {o0 : Int} {tt : Nat} {lim : Int} {b : Bv} (h_obj_a : M a = some (t, .inr (cTe, [vI k0, vI s0, vI n0, .int w0, vI f0, vI o0]))) (h_B_o : IsB D M o tt lim b) (hq : -100000 ≤ q ∧ q ≤ 100000) (hst : -100000 ≤ stop ∧ stop ≤ 100000) (htt : tt ≠ t ∧ tt + 1 ≠ t) : Ok l D b0 6 y_Te_readTarget b_Te_readTarget 5 (some .boolean) M [.ref a, vI rd, .ref o, vI q, vI stop] 0 0 (fun r M' => r = some (vI (b2i (targS b.2 q stop))) ∧ M' a = some (t, .inr (cTe, [vI rd, vI s0, vI n0, .int w0, vI q, vI stop])) ∧ Fr [t] M M') := by
  refine Ok_of rfl (Nat.le_of_ble_eq_true rfl) (fun E hC hQ hl hD hB hN hR => ?_)
  subst hl hD hB
  have hB9 := h_B_o.len
  show G E M 0 0 [(0, .ref a), (1, vI rd), (2, .ref o), (3, vI q), (4, vI stop)] [] 0
  refine G_aload_n hC 0 rfl rfl d_Te_readTarget_0 ?_
  refine G_iload_n hC 1 rfl rfl d_Te_readTarget_1 ?_
  refine G_putX (fs' := [vI rd, vI s0, vI n0, .int w0, vI f0, vI o0]) hC fl_Te_9 ft_Te fw_Te_0 h_obj_a rfl rfl (Nat.le_of_ble_eq_true rfl) rfl d_Te_readTarget_2 (fun M_1 h_2 fr_3 => ?_)
  refine G_aload_n hC 0 rfl rfl d_Te_readTarget_5 ?_
  refine G_iload_n hC 3 rfl rfl d_Te_readTarget_6 ?_
  refine G_putX (fs' := [vI rd, vI s0, vI n0, .int w0, vI q, vI o0]) hC fl_Te_21 ft_Te fw_Te_4 h_2 rfl rfl (Nat.le_of_ble_eq_true rfl) rfl d_Te_readTarget_7 (fun M_4 h_5 fr_6 => ?_)
  refine G_aload_n hC 0 rfl rfl d_Te_readTarget_10 ?_
  refine G_iload hC 4 rfl d_Te_readTarget_11 ?_
  refine G_putX (fs' := [vI rd, vI s0, vI n0, .int w0, vI q, vI stop]) hC fl_Te_24 ft_Te fw_Te_5 h_5 rfl rfl (Nat.le_of_ble_eq_true rfl) rfl d_Te_readTarget_13 (fun M_7 h_8 fr_9 => ?_)
  refine G_aload_n hC 2 rfl rfl d_Te_readTarget_16 ?_
  refine G_iload_n hC 3 rfl rfl d_Te_readTarget_17 ?_
  refine G_iload hC 4 rfl d_Te_readTarget_18 ?_
  have h_10 := h_B_o.fr fr_3 (by simp only [List.mem_cons, List.not_mem_nil, or_false, not_or, not_false_eq_true]; try omega) (by simp only [List.mem_cons, List.not_mem_nil, or_false, not_or, not_false_eq_true]; try omega)
  have h_11 := h_10.fr fr_6 (by simp only [List.mem_cons, List.not_mem_nil, or_false, not_or, not_false_eq_true]; try omega) (by simp only [List.mem_cons, List.not_mem_nil, or_false, not_or, not_false_eq_true]; try omega)
  have h_12 := h_11.fr fr_9 (by simp only [List.mem_cons, List.not_mem_nil, or_false, not_or, not_false_eq_true]; try omega) (by simp only [List.mem_cons, List.not_mem_nil, or_false, not_or, not_false_eq_true]; try omega)
  refine G_pS (rest := []) hC hR (c_Ma_isTarget h_12 (by omega) (by omega) rfl) cs_Te_84 (by decide) (by omega) (by omega) rfl rfl (Nat.le_of_ble_eq_true rfl) d_Te_readTarget_20 ?_
  exact G_zretX _ hC hQ (by omega) (by omega) d_Te_readTarget_23 rfl ⟨rfl, h_8, (((fr_3.up (T := [t]) (by simp)).tr' (T := [t]) fr_6 (fun _ z => z) (by simp)).tr' (T := [t]) fr_9 (fun _ z => z) (by simp))⟩

set_option maxHeartbeats 4000000 in
set_option maxRecDepth 100000 in
theorem c_Te_readBits {l : Launch} {D : Dg} {b0 : Nat} {M : Mp} {a : Nat} {o : Nat} {q : Int} {stop : Int} {t : Nat} {k0 : Int} {s0 : Int} {n0 : Int} {w0 : Int32} {f0 : Int} {o0 : Int} {tt : Nat} {lim : Int} {b : Bv} {P : Option Int} (h_obj_a : M a = some (t, .inr (cTe, [vI k0, vI s0, vI n0, .int w0, vI f0, vI o0]))) (h_B_o : IsB D M o tt lim b) (hq : -100000 ≤ q ∧ q ≤ 100000) (hst : -100000 ≤ stop ∧ stop ≤ 100000) (htt : tt ≠ t ∧ tt + 1 ≠ t) (hr : bitsS b.2 q stop = P) : Ok l D b0 2 y_Te_readBits b_Te_readBits 5 (some .boolean) M [.ref a, .ref o, vI q, vI stop] 0 0 (fun r M' => ∃ n1 : Int, r = some (vI (b2i P.isSome)) ∧ M' a = some (t, .inr (cTe, [vI k0, vI s0, vI n1, .int w0, vI f0, vI o0])) ∧ (∀ v, P = some v → n1 = v) ∧ Fr [t] M M') := by
  refine Ok_of rfl (Nat.le_of_ble_eq_true rfl) (fun E hC hQ hl hD hB hN hR => ?_)
  subst hl hD hB
  have hB9 := h_B_o.len
  unfold bitsS at hr
  show G E M 0 0 [(0, .ref a), (1, .ref o), (2, vI q), (3, vI stop)] [] 0
  refine G_iload_n hC 3 rfl rfl d_Te_readBits_0 ?_
  refine G_iload_n hC 2 rfl rfl d_Te_readBits_1 ?_
  refine G_icmp_le hC 12 (by omega) (by omega) (by decide) d_Te_readBits_2 (fun c_1 => ?_) (fun c_1 => ?_)
  · refine G_iconst (i := 0) hC d_Te_readBits_12 ?_
    exact G_zretX _ hC hQ (by omega) (by omega) d_Te_readBits_13 (b2i_f (by rw [if_pos (by omega)] at hr; rw [← hr]; rfl)) ⟨_, rfl, h_obj_a, (fun v hv => by rw [if_pos (by omega), hv] at hr; cases hr), Fr.rf⟩
  · refine G_iload_n hC 3 rfl rfl d_Te_readBits_5 ?_
    refine G_iload_n hC 2 rfl rfl d_Te_readBits_6 ?_
    refine G_isub hC d_Te_readBits_7 ?_
    refine G_iconst (i := 2) hC d_Te_readBits_8 ?_
    refine G_icmp_le hC 14 (by omega) (by decide) (by decide) d_Te_readBits_9 (fun c_2 => ?_) (fun c_2 => ?_)
    · refine G_aload_n hC 0 rfl rfl d_Te_readBits_14 ?_
      refine G_iconst (i := 0) hC d_Te_readBits_15 ?_
      refine G_putX (fs' := [vI k0, vI s0, vI 0, .int w0, vI f0, vI o0]) hC fl_Te_15 ft_Te fw_Te_2 h_obj_a rfl rfl (Nat.le_of_ble_eq_true rfl) rfl d_Te_readBits_16 (fun M_3 h_4 fr_5 => ?_)
      refine G_iload_n hC 2 rfl rfl d_Te_readBits_19 ?_
      refine G_istore (lv' := [(4, vI q), (0, .ref a), (1, .ref o), (2, vI q), (3, vI stop)]) hC (by rw [hN]; decide) rfl d_Te_readBits_20 ?_
      have L22 : ∀ (N : Nat) (M1 : Mp) (k : Int) (v : Int), (stop - k).toNat < N → (Fr [t] M_3 M1) → (M1 a = some (t, .inr (cTe, [vI k0, vI s0, vI v, .int w0, vI f0, vI o0]))) → (0 ≤ v ∧ (k = q ∧ v = 0 ∨ k = q + 1 ∧ v ≤ 9 ∨ k = q + 2 ∧ v ≤ 99) ∧ k ≤ stop) → (bitsL b.2 stop k v = P) → G E M1 0 0 [(0, .ref a), (1, .ref o), (2, vI q), (3, vI stop), (4, vI k)] [] 22 := by
        intro N
        induction N with
        | zero => intro M1 k v hN22 hfr ho hk hf; exact absurd hN22 (Nat.not_lt_zero _)
        | succ N ih22 =>
          intro M1 k v hN22 hfr ho hk hf
          refine G_iload hC 4 rfl d_Te_readBits_22 ?_
          refine G_iload_n hC 3 rfl rfl d_Te_readBits_24 ?_
          refine G_icmp_ge hC 69 (by omega) (by omega) (by decide) d_Te_readBits_25 (fun c_6 => ?_) (fun c_6 => ?_)
          · refine G_aload_n hC 0 rfl rfl d_Te_readBits_69 ?_
            refine G_get hC fl_Te_15 ho rfl d_Te_readBits_70 ?_
            refine G_bipush (j := 32) hC (by decide +kernel) d_Te_readBits_73 ?_
            refine G_icmp_gt hC 82 (by omega) (by decide) (by decide) d_Te_readBits_75 (fun c_7 => ?_) (fun c_7 => ?_)
            · refine G_iconst (i := 0) hC d_Te_readBits_82 ?_
              exact G_zretX _ hC hQ (by omega) (by omega) d_Te_readBits_83 (b2i_f (by rw [bitsL] at hf; (repeat' split at hf); all_goals first | (exfalso; omega) | (rw [← hf]; rfl))) ⟨_, rfl, ho, (fun v9 hv => by rw [hv, bitsL] at hf; (repeat' split at hf); all_goals first | (exfalso; omega) | cases hf), ((fr_5.up (T := [t]) (by simp)).tr' (T := [t]) hfr (fun _ z => z) (by simp))⟩
            · refine G_iconst (i := 1) hC d_Te_readBits_78 ?_
              refine G_goto hC 83 (by decide) d_Te_readBits_79 ?_
              exact G_zretX _ hC hQ (by omega) (by omega) d_Te_readBits_83 (b2i_t (by rw [bitsL] at hf; (repeat' split at hf); all_goals first | (exfalso; omega) | (rw [← hf]; rfl))) ⟨_, rfl, ho, (fun v9 hv => by rw [hv, bitsL] at hf; (repeat' split at hf); all_goals first | (exfalso; omega) | exact (Option.some.inj hf) | cases hf), ((fr_5.up (T := [t]) (by simp)).tr' (T := [t]) hfr (fun _ z => z) (by simp))⟩
          · refine G_aload_n hC 1 rfl rfl d_Te_readBits_28 ?_
            refine G_iload hC 4 rfl d_Te_readBits_29 ?_
            have h_8 := h_B_o.fr fr_5 (by simp only [List.mem_cons, List.not_mem_nil, or_false, not_or, not_false_eq_true]; try omega) (by simp only [List.mem_cons, List.not_mem_nil, or_false, not_or, not_false_eq_true]; try omega)
            have h_9 := h_8.fr hfr (by simp only [List.mem_cons, List.not_mem_nil, or_false, not_or, not_false_eq_true]; try omega) (by simp only [List.mem_cons, List.not_mem_nil, or_false, not_or, not_false_eq_true]; try omega)
            refine G_pV (rest := []) hC hR (c_By_at h_9 (by omega)) cv_Te_30 h_9.obj (by decide) (by omega) (by omega) rfl rfl (Nat.le_of_ble_eq_true rfl) d_Te_readBits_31 ?_
            have g_10 := h_9.at_rng k
            refine G_pS (rest := []) hC hR (c_Si_isDigit (by omega)) cs_Te_95 (by decide) (by omega) (by omega) rfl rfl (Nat.le_of_ble_eq_true rfl) d_Te_readBits_34 ?_
            refine G_if_ne hC 42 (by have := b2i_rng (decide (digP (atS b.2 k))); omega) (by decide) d_Te_readBits_37 (fun c_11 => ?_) (fun c_11 => ?_)
            · have c_11 := b2i_ne0.mp c_11
              have c_11 := of_decide_eq_true c_11
              refine G_aload_n hC 0 rfl rfl d_Te_readBits_42 ?_
              refine G_aload_n hC 0 rfl rfl d_Te_readBits_43 ?_
              refine G_get hC fl_Te_15 ho rfl d_Te_readBits_44 ?_
              refine G_bipush (j := 10) hC (by decide +kernel) d_Te_readBits_47 ?_
              refine G_imul hC d_Te_readBits_49 ?_
              refine G_aload_n hC 1 rfl rfl d_Te_readBits_50 ?_
              refine G_iload hC 4 rfl d_Te_readBits_51 ?_
              refine G_pV (rest := [vI (v * 10), .ref a]) hC hR (c_By_at h_9 (by omega)) cv_Te_30 h_9.obj (by decide) (by omega) (by omega) rfl rfl (Nat.le_of_ble_eq_true rfl) d_Te_readBits_53 ?_
              have g_12 := h_9.at_rng k
              refine G_iadd hC d_Te_readBits_56 ?_
              refine G_bipush (j := 48) hC (by decide +kernel) d_Te_readBits_57 ?_
              refine G_isub hC d_Te_readBits_59 ?_
              refine G_putX (fs' := [vI k0, vI s0, vI (((v * 10) + (atS b.2 k)) - 48), .int w0, vI f0, vI o0]) hC fl_Te_15 ft_Te fw_Te_2 ho rfl rfl (Nat.le_of_ble_eq_true rfl) rfl d_Te_readBits_60 (fun M_13 h_14 fr_15 => ?_)
              refine G_iinc (lv' := [(4, vI (k + 1)), (0, .ref a), (1, .ref o), (2, vI q), (3, vI stop)]) hC 4 rfl (by rw [hN]; decide) rfl d_Te_readBits_63 ?_
              refine G_goto hC 22 (by decide) d_Te_readBits_66 ?_
              refine G_lv [1, 2, 3, 4, 0] rfl ?_
              exact ih22 M_13 (k + 1) _ (by omega) ((hfr.up (T := [t]) (by simp)).tr' (T := [t]) fr_15 (fun _ z => z) (by simp)) h_14 (by omega) (by rw [bitsL] at hf; (repeat' split at hf); all_goals first | exact hf | (exfalso; omega))
            · have c_11 := b2i_eq0.mp c_11
              have c_11 := of_decide_eq_false c_11
              refine G_iconst (i := 0) hC d_Te_readBits_40 ?_
              exact G_zretX _ hC hQ (by omega) (by omega) d_Te_readBits_41 (b2i_f (by rw [bitsL] at hf; (repeat' split at hf); all_goals first | (exfalso; omega) | (rw [← hf]; rfl))) ⟨_, rfl, ho, (fun v9 hv => by rw [hv, bitsL] at hf; (repeat' split at hf); all_goals first | (exfalso; omega) | cases hf), ((fr_5.up (T := [t]) (by simp)).tr' (T := [t]) hfr (fun _ z => z) (by simp))⟩
      refine G_lv [1, 2, 3, 4, 0] rfl ?_
      exact L22 _ M_3 q _ (Nat.lt_succ_self _) Fr.rf h_4 (by omega) (by rw [if_neg (by omega)] at hr; exact hr)
    · refine G_iconst (i := 0) hC d_Te_readBits_12 ?_
      exact G_zretX _ hC hQ (by omega) (by omega) d_Te_readBits_13 (b2i_f (by rw [if_pos (by omega)] at hr; rw [← hr]; rfl)) ⟨_, rfl, h_obj_a, (fun v hv => by rw [if_pos (by omega), hv] at hr; cases hr), Fr.rf⟩

set_option maxHeartbeats 4000000 in
set_option maxRecDepth 100000 in
theorem c_Te_readFour {l : Launch} {D : Dg} {b0 : Nat} {M : Mp} {a : Nat} {o : Nat} {q : Int} {stop : Int} {t : Nat} {k0 : Int} {s0 : Int} {n0 : Int} {w0 : Int32} {f0 : Int} {o0 : Int} {tt : Nat} {lim : Int} {b : Bv} {P : Option Int32} (h_obj_a : M a = some (t, .inr (cTe, [vI k0, vI s0, vI n0, .int w0, vI f0, vI o0]))) (h_B_o : IsB D M o tt lim b) (hq : -100000 ≤ q ∧ q ≤ 100000) (hst : -100000 ≤ stop ∧ stop ≤ 100000) (htt : tt ≠ t ∧ tt + 1 ≠ t) (hr : quadL b.2 stop q 0 0 0 0 = P) : Ok l D b0 2 y_Te_readFour b_Te_readFour 9 (some .boolean) M [.ref a, .ref o, vI q, vI stop] 0 0 (fun r M' => ∃ w1 : Int32, r = some (vI (b2i P.isSome)) ∧ M' a = some (t, .inr (cTe, [vI k0, vI s0, vI n0, .int w1, vI f0, vI o0])) ∧ (∀ v, P = some v → w1 = v) ∧ Fr [t] M M') := by
  refine Ok_of rfl (Nat.le_of_ble_eq_true rfl) (fun E hC hQ hl hD hB hN hR => ?_)
  subst hl hD hB
  have hB9 := h_B_o.len
  show G E M 0 0 [(0, .ref a), (1, .ref o), (2, vI q), (3, vI stop)] [] 0
  refine G_iconst (i := 0) hC d_Te_readFour_0 ?_
  refine G_istore (lv' := [(4, vI 0), (0, .ref a), (1, .ref o), (2, vI q), (3, vI stop)]) hC (by rw [hN]; decide) rfl d_Te_readFour_1 ?_
  refine G_iconst (i := 0) hC d_Te_readFour_3 ?_
  refine G_istore (lv' := [(5, vI 0), (4, vI 0), (0, .ref a), (1, .ref o), (2, vI q), (3, vI stop)]) hC (by rw [hN]; decide) rfl d_Te_readFour_4 ?_
  refine G_iconst (i := 0) hC d_Te_readFour_6 ?_
  refine G_istore (lv' := [(6, vI 0), (5, vI 0), (4, vI 0), (0, .ref a), (1, .ref o), (2, vI q), (3, vI stop)]) hC (by rw [hN]; decide) rfl d_Te_readFour_7 ?_
  refine G_aload_n hC 3 rfl rfl d_Te_readFour_9 ?_
  refine G_iconst (i := 0) hC d_Te_readFour_10 ?_
  refine G_putX (fs' := [vI k0, vI s0, vI n0, vI 0, vI f0, vI o0]) hC fl_Te_18 ft_Te fw_Te_3 h_obj_a rfl rfl (Nat.le_of_ble_eq_true rfl) rfl d_Te_readFour_11 (fun M_1 h_2 fr_3 => ?_)
  refine G_iload_n hC 5 rfl rfl d_Te_readFour_14 ?_
  refine G_istore (lv' := [(7, vI q), (6, vI 0), (5, vI 0), (4, vI 0), (0, .ref a), (1, .ref o), (2, vI q), (3, vI stop)]) hC (by rw [hN]; decide) rfl d_Te_readFour_15 ?_
  have L17 : ∀ (N : Nat) (M1 : Mp) (dots : Int) (digits : Int) (number : Int) (k : Int) (net : Int32), (stop - k).toNat < N → (Fr [t] M_1 M1) → (M1 a = some (t, .inr (cTe, [vI k0, vI s0, vI n0, .int net, vI f0, vI o0]))) → (q ≤ k ∧ (k ≤ stop ∨ k = q) ∧ 0 ≤ dots ∧ dots ≤ 3 ∧ 0 ≤ digits ∧ digits ≤ 3 ∧ 0 ≤ number ∧ number ≤ 255) → (quadL b.2 stop k dots digits number net = P) → G E M1 0 0 [(0, .ref a), (1, .ref o), (2, vI q), (3, vI stop), (4, vI dots), (5, vI digits), (6, vI number), (7, vI k)] [] 17 := by
    intro N
    induction N with
    | zero => intro M1 dots digits number k net hN17 hfr ho hk hf; exact absurd hN17 (Nat.not_lt_zero _)
    | succ N ih17 =>
      intro M1 dots digits number k net hN17 hfr ho hk hf
      refine G_iload hC 7 rfl d_Te_readFour_17 ?_
      refine G_iload_n hC 3 rfl rfl d_Te_readFour_19 ?_
      refine G_icmp_ge hC 126 (by omega) (by omega) (by decide) d_Te_readFour_20 (fun c_4 => ?_) (fun c_4 => ?_)
      · refine G_aload_n hC 0 rfl rfl d_Te_readFour_126 ?_
        refine G_aload_n hC 0 rfl rfl d_Te_readFour_127 ?_
        refine G_get hC fl_Te_18 ho rfl d_Te_readFour_128 ?_
        refine G_bipush (j := 8) hC (by decide +kernel) d_Te_readFour_131 ?_
        refine G_ishl hC rfl d_Te_readFour_133 ?_
        refine G_iload hC 6 rfl d_Te_readFour_134 ?_
        refine G_ior hC rfl d_Te_readFour_136 ?_
        refine G_putX (fs' := [vI k0, vI s0, vI n0, .int ((net <<< (zI 8 &&& 31)) ||| (zI number)), vI f0, vI o0]) hC fl_Te_18 ft_Te fw_Te_3 ho rfl rfl (Nat.le_of_ble_eq_true rfl) rfl d_Te_readFour_137 (fun M_5 h_6 fr_7 => ?_)
        refine G_iload hC 4 rfl d_Te_readFour_140 ?_
        refine G_iconst (i := 3) hC d_Te_readFour_142 ?_
        refine G_icmp_ne hC 155 (by omega) (by decide) (by decide) d_Te_readFour_143 (fun c_8 => ?_) (fun c_8 => ?_)
        · refine G_iconst (i := 0) hC d_Te_readFour_155 ?_
          exact G_zretX _ hC hQ (by omega) (by omega) d_Te_readFour_156 (b2i_f (by rw [quadL] at hf; (repeat' split at hf); all_goals first | (exfalso; omega) | (rw [← hf]; rfl))) ⟨_, rfl, h_6, (fun v9 hv => by rw [hv, quadL] at hf; (repeat' split at hf); all_goals first | (exfalso; omega) | exact (Option.some.inj hf) | cases hf), (((fr_3.up (T := [t]) (by simp)).tr' (T := [t]) hfr (fun _ z => z) (by simp)).tr' (T := [t]) fr_7 (fun _ z => z) (by simp))⟩
        · refine G_iload hC 5 rfl d_Te_readFour_146 ?_
          refine G_if_le hC 155 (by omega) (by decide) d_Te_readFour_148 (fun c_9 => ?_) (fun c_9 => ?_)
          · refine G_iconst (i := 0) hC d_Te_readFour_155 ?_
            exact G_zretX _ hC hQ (by omega) (by omega) d_Te_readFour_156 (b2i_f (by rw [quadL] at hf; (repeat' split at hf); all_goals first | (exfalso; omega) | (rw [← hf]; rfl))) ⟨_, rfl, h_6, (fun v9 hv => by rw [hv, quadL] at hf; (repeat' split at hf); all_goals first | (exfalso; omega) | exact (Option.some.inj hf) | cases hf), (((fr_3.up (T := [t]) (by simp)).tr' (T := [t]) hfr (fun _ z => z) (by simp)).tr' (T := [t]) fr_7 (fun _ z => z) (by simp))⟩
          · refine G_iconst (i := 1) hC d_Te_readFour_151 ?_
            refine G_goto hC 156 (by decide) d_Te_readFour_152 ?_
            exact G_zretX _ hC hQ (by omega) (by omega) d_Te_readFour_156 (b2i_t (by rw [quadL] at hf; (repeat' split at hf); all_goals first | (exfalso; omega) | (rw [← hf]; rfl))) ⟨_, rfl, h_6, (fun v9 hv => by rw [hv, quadL] at hf; (repeat' split at hf); all_goals first | (exfalso; omega) | exact (Option.some.inj hf) | cases hf), (((fr_3.up (T := [t]) (by simp)).tr' (T := [t]) hfr (fun _ z => z) (by simp)).tr' (T := [t]) fr_7 (fun _ z => z) (by simp))⟩
      · refine G_aload_n hC 1 rfl rfl d_Te_readFour_23 ?_
        refine G_iload hC 7 rfl d_Te_readFour_24 ?_
        have h_10 := h_B_o.fr fr_3 (by simp only [List.mem_cons, List.not_mem_nil, or_false, not_or, not_false_eq_true]; try omega) (by simp only [List.mem_cons, List.not_mem_nil, or_false, not_or, not_false_eq_true]; try omega)
        have h_11 := h_10.fr hfr (by simp only [List.mem_cons, List.not_mem_nil, or_false, not_or, not_false_eq_true]; try omega) (by simp only [List.mem_cons, List.not_mem_nil, or_false, not_or, not_false_eq_true]; try omega)
        refine G_pV (rest := []) hC hR (c_By_at h_11 (by omega)) cv_Te_30 h_11.obj (by decide) (by omega) (by omega) rfl rfl (Nat.le_of_ble_eq_true rfl) d_Te_readFour_26 ?_
        have g_12 := h_11.at_rng k
        refine G_istore (lv' := [(8, vI (atS b.2 k)), (0, .ref a), (1, .ref o), (2, vI q), (3, vI stop), (4, vI dots), (5, vI digits), (6, vI number), (7, vI k)]) hC (by rw [hN]; decide) rfl d_Te_readFour_29 ?_
        refine G_iload hC 0 rfl d_Te_readFour_31 ?_
        refine G_pS (rest := []) hC hR (c_Si_isDigit (by omega)) cs_Te_95 (by decide) (by omega) (by omega) rfl rfl (Nat.le_of_ble_eq_true rfl) d_Te_readFour_33 ?_
        refine G_if_eq hC 64 (by have := b2i_rng (decide (digP (atS b.2 k))); omega) (by decide) d_Te_readFour_36 (fun c_13 => ?_) (fun c_13 => ?_)
        · have c_13 := b2i_eq0.mp c_13
          have c_13 := of_decide_eq_false c_13
          refine G_iload hC 0 rfl d_Te_readFour_64 ?_
          refine G_bipush (j := 46) hC (by decide +kernel) d_Te_readFour_66 ?_
          refine G_icmp_ne hC 108 (by omega) (by decide) (by decide) d_Te_readFour_68 (fun c_14 => ?_) (fun c_14 => ?_)
          · refine G_iconst (i := 0) hC d_Te_readFour_108 ?_
            exact G_zretX _ hC hQ (by omega) (by omega) d_Te_readFour_109 (b2i_f (by rw [quadL] at hf; (repeat' split at hf); all_goals first | (exfalso; omega) | (rw [← hf]; rfl))) ⟨_, rfl, ho, (fun v9 hv => by rw [hv, quadL] at hf; (repeat' split at hf); all_goals first | (exfalso; omega) | exact (Option.some.inj hf) | cases hf), ((fr_3.up (T := [t]) (by simp)).tr' (T := [t]) hfr (fun _ z => z) (by simp))⟩
          · refine G_iload hC 6 rfl d_Te_readFour_71 ?_
            refine G_if_le hC 108 (by omega) (by decide) d_Te_readFour_73 (fun c_15 => ?_) (fun c_15 => ?_)
            · refine G_iconst (i := 0) hC d_Te_readFour_108 ?_
              exact G_zretX _ hC hQ (by omega) (by omega) d_Te_readFour_109 (b2i_f (by rw [quadL] at hf; (repeat' split at hf); all_goals first | (exfalso; omega) | (rw [← hf]; rfl))) ⟨_, rfl, ho, (fun v9 hv => by rw [hv, quadL] at hf; (repeat' split at hf); all_goals first | (exfalso; omega) | exact (Option.some.inj hf) | cases hf), ((fr_3.up (T := [t]) (by simp)).tr' (T := [t]) hfr (fun _ z => z) (by simp))⟩
            · refine G_iload hC 5 rfl d_Te_readFour_76 ?_
              refine G_iconst (i := 3) hC d_Te_readFour_78 ?_
              refine G_icmp_ge hC 108 (by omega) (by decide) (by decide) d_Te_readFour_79 (fun c_16 => ?_) (fun c_16 => ?_)
              · refine G_iconst (i := 0) hC d_Te_readFour_108 ?_
                exact G_zretX _ hC hQ (by omega) (by omega) d_Te_readFour_109 (b2i_f (by rw [quadL] at hf; (repeat' split at hf); all_goals first | (exfalso; omega) | (rw [← hf]; rfl))) ⟨_, rfl, ho, (fun v9 hv => by rw [hv, quadL] at hf; (repeat' split at hf); all_goals first | (exfalso; omega) | exact (Option.some.inj hf) | cases hf), ((fr_3.up (T := [t]) (by simp)).tr' (T := [t]) hfr (fun _ z => z) (by simp))⟩
              · refine G_aload_n hC 1 rfl rfl d_Te_readFour_82 ?_
                refine G_aload_n hC 1 rfl rfl d_Te_readFour_83 ?_
                refine G_get hC fl_Te_18 ho rfl d_Te_readFour_84 ?_
                refine G_bipush (j := 8) hC (by decide +kernel) d_Te_readFour_87 ?_
                refine G_ishl hC rfl d_Te_readFour_89 ?_
                refine G_iload hC 7 rfl d_Te_readFour_90 ?_
                refine G_ior hC rfl d_Te_readFour_92 ?_
                refine G_putX (fs' := [vI k0, vI s0, vI n0, .int ((net <<< (zI 8 &&& 31)) ||| (zI number)), vI f0, vI o0]) hC fl_Te_18 ft_Te fw_Te_3 ho rfl rfl (Nat.le_of_ble_eq_true rfl) rfl d_Te_readFour_93 (fun M_17 h_18 fr_19 => ?_)
                refine G_iinc (lv' := [(4, vI (dots + 1)), (8, vI (atS b.2 k)), (0, .ref a), (1, .ref o), (2, vI q), (3, vI stop), (5, vI digits), (6, vI number), (7, vI k)]) hC 5 rfl (by rw [hN]; decide) rfl d_Te_readFour_96 ?_
                refine G_iconst (i := 0) hC d_Te_readFour_99 ?_
                refine G_istore (lv' := [(5, vI 0), (4, vI (dots + 1)), (8, vI (atS b.2 k)), (0, .ref a), (1, .ref o), (2, vI q), (3, vI stop), (6, vI number), (7, vI k)]) hC (by rw [hN]; decide) rfl d_Te_readFour_100 ?_
                refine G_iconst (i := 0) hC d_Te_readFour_102 ?_
                refine G_istore (lv' := [(6, vI 0), (5, vI 0), (4, vI (dots + 1)), (8, vI (atS b.2 k)), (0, .ref a), (1, .ref o), (2, vI q), (3, vI stop), (7, vI k)]) hC (by rw [hN]; decide) rfl d_Te_readFour_103 ?_
                refine G_goto hC 110 (by decide) d_Te_readFour_105 ?_
                refine G_iload hC 0 rfl d_Te_readFour_110 ?_
                refine G_sipush (j := 255) hC (by decide +kernel) d_Te_readFour_112 ?_
                refine G_icmp_le hC 120 (by decide) (by decide) (by decide) d_Te_readFour_115 (fun c_20 => ?_) (fun c_20 => ?_)
                · refine G_iinc (lv' := [(7, vI (k + 1)), (6, vI 0), (5, vI 0), (4, vI (dots + 1)), (8, vI (atS b.2 k)), (0, .ref a), (1, .ref o), (2, vI q), (3, vI stop)]) hC 8 rfl (by rw [hN]; decide) rfl d_Te_readFour_120 ?_
                  refine G_goto hC 17 (by decide) d_Te_readFour_123 ?_
                  refine G_lv [5, 6, 7, 8, 3, 2, 1, 0] rfl ?_
                  exact ih17 M_17 (dots + 1) 0 0 (k + 1) _ (by omega) ((hfr.up (T := [t]) (by simp)).tr' (T := [t]) fr_19 (fun _ z => z) (by simp)) h_18 (by omega) (by rw [quadL] at hf; (repeat' split at hf); all_goals first | exact hf | (exfalso; omega))
                · refine G_iconst (i := 0) hC d_Te_readFour_118 ?_
                  exact G_zretX _ hC hQ (by omega) (by omega) d_Te_readFour_119 (b2i_f (by rw [quadL] at hf; (repeat' split at hf); all_goals first | (exfalso; omega) | (rw [← hf]; rfl))) ⟨_, rfl, h_18, (fun v9 hv => by rw [hv, quadL] at hf; (repeat' split at hf); all_goals first | (exfalso; omega) | exact (Option.some.inj hf) | cases hf), (((fr_3.up (T := [t]) (by simp)).tr' (T := [t]) hfr (fun _ z => z) (by simp)).tr' (T := [t]) fr_19 (fun _ z => z) (by simp))⟩
        · have c_13 := b2i_ne0.mp c_13
          have c_13 := of_decide_eq_true c_13
          refine G_iload hC 6 rfl d_Te_readFour_39 ?_
          refine G_iconst (i := 3) hC d_Te_readFour_41 ?_
          refine G_icmp_ge hC 64 (by omega) (by decide) (by decide) d_Te_readFour_42 (fun c_21 => ?_) (fun c_21 => ?_)
          · refine G_iload hC 0 rfl d_Te_readFour_64 ?_
            refine G_bipush (j := 46) hC (by decide +kernel) d_Te_readFour_66 ?_
            refine G_icmp_ne hC 108 (by omega) (by decide) (by decide) d_Te_readFour_68 (fun c_22 => ?_) (fun c_22 => ?_)
            · refine G_iconst (i := 0) hC d_Te_readFour_108 ?_
              exact G_zretX _ hC hQ (by omega) (by omega) d_Te_readFour_109 (b2i_f (by rw [quadL] at hf; (repeat' split at hf); all_goals first | (exfalso; omega) | (rw [← hf]; rfl))) ⟨_, rfl, ho, (fun v9 hv => by rw [hv, quadL] at hf; (repeat' split at hf); all_goals first | (exfalso; omega) | exact (Option.some.inj hf) | cases hf), ((fr_3.up (T := [t]) (by simp)).tr' (T := [t]) hfr (fun _ z => z) (by simp))⟩
            · refine G_iload hC 6 rfl d_Te_readFour_71 ?_
              refine G_if_le hC 108 (by omega) (by decide) d_Te_readFour_73 (fun c_23 => ?_) (fun c_23 => ?_)
              · refine G_iconst (i := 0) hC d_Te_readFour_108 ?_
                exact G_zretX _ hC hQ (by omega) (by omega) d_Te_readFour_109 (b2i_f (by rw [quadL] at hf; (repeat' split at hf); all_goals first | (exfalso; omega) | (rw [← hf]; rfl))) ⟨_, rfl, ho, (fun v9 hv => by rw [hv, quadL] at hf; (repeat' split at hf); all_goals first | (exfalso; omega) | exact (Option.some.inj hf) | cases hf), ((fr_3.up (T := [t]) (by simp)).tr' (T := [t]) hfr (fun _ z => z) (by simp))⟩
              · refine G_iload hC 5 rfl d_Te_readFour_76 ?_
                refine G_iconst (i := 3) hC d_Te_readFour_78 ?_
                refine G_icmp_ge hC 108 (by omega) (by decide) (by decide) d_Te_readFour_79 (fun c_24 => ?_) (fun c_24 => ?_)
                · refine G_iconst (i := 0) hC d_Te_readFour_108 ?_
                  exact G_zretX _ hC hQ (by omega) (by omega) d_Te_readFour_109 (b2i_f (by rw [quadL] at hf; (repeat' split at hf); all_goals first | (exfalso; omega) | (rw [← hf]; rfl))) ⟨_, rfl, ho, (fun v9 hv => by rw [hv, quadL] at hf; (repeat' split at hf); all_goals first | (exfalso; omega) | exact (Option.some.inj hf) | cases hf), ((fr_3.up (T := [t]) (by simp)).tr' (T := [t]) hfr (fun _ z => z) (by simp))⟩
                · refine G_aload_n hC 1 rfl rfl d_Te_readFour_82 ?_
                  refine G_aload_n hC 1 rfl rfl d_Te_readFour_83 ?_
                  refine G_get hC fl_Te_18 ho rfl d_Te_readFour_84 ?_
                  refine G_bipush (j := 8) hC (by decide +kernel) d_Te_readFour_87 ?_
                  refine G_ishl hC rfl d_Te_readFour_89 ?_
                  refine G_iload hC 7 rfl d_Te_readFour_90 ?_
                  refine G_ior hC rfl d_Te_readFour_92 ?_
                  refine G_putX (fs' := [vI k0, vI s0, vI n0, .int ((net <<< (zI 8 &&& 31)) ||| (zI number)), vI f0, vI o0]) hC fl_Te_18 ft_Te fw_Te_3 ho rfl rfl (Nat.le_of_ble_eq_true rfl) rfl d_Te_readFour_93 (fun M_25 h_26 fr_27 => ?_)
                  refine G_iinc (lv' := [(4, vI (dots + 1)), (8, vI (atS b.2 k)), (0, .ref a), (1, .ref o), (2, vI q), (3, vI stop), (5, vI digits), (6, vI number), (7, vI k)]) hC 5 rfl (by rw [hN]; decide) rfl d_Te_readFour_96 ?_
                  refine G_iconst (i := 0) hC d_Te_readFour_99 ?_
                  refine G_istore (lv' := [(5, vI 0), (4, vI (dots + 1)), (8, vI (atS b.2 k)), (0, .ref a), (1, .ref o), (2, vI q), (3, vI stop), (6, vI number), (7, vI k)]) hC (by rw [hN]; decide) rfl d_Te_readFour_100 ?_
                  refine G_iconst (i := 0) hC d_Te_readFour_102 ?_
                  refine G_istore (lv' := [(6, vI 0), (5, vI 0), (4, vI (dots + 1)), (8, vI (atS b.2 k)), (0, .ref a), (1, .ref o), (2, vI q), (3, vI stop), (7, vI k)]) hC (by rw [hN]; decide) rfl d_Te_readFour_103 ?_
                  refine G_goto hC 110 (by decide) d_Te_readFour_105 ?_
                  refine G_iload hC 0 rfl d_Te_readFour_110 ?_
                  refine G_sipush (j := 255) hC (by decide +kernel) d_Te_readFour_112 ?_
                  refine G_icmp_le hC 120 (by decide) (by decide) (by decide) d_Te_readFour_115 (fun c_28 => ?_) (fun c_28 => ?_)
                  · refine G_iinc (lv' := [(7, vI (k + 1)), (6, vI 0), (5, vI 0), (4, vI (dots + 1)), (8, vI (atS b.2 k)), (0, .ref a), (1, .ref o), (2, vI q), (3, vI stop)]) hC 8 rfl (by rw [hN]; decide) rfl d_Te_readFour_120 ?_
                    refine G_goto hC 17 (by decide) d_Te_readFour_123 ?_
                    refine G_lv [5, 6, 7, 8, 3, 2, 1, 0] rfl ?_
                    exact ih17 M_25 (dots + 1) 0 0 (k + 1) _ (by omega) ((hfr.up (T := [t]) (by simp)).tr' (T := [t]) fr_27 (fun _ z => z) (by simp)) h_26 (by omega) (by rw [quadL] at hf; (repeat' split at hf); all_goals first | exact hf | (exfalso; omega))
                  · refine G_iconst (i := 0) hC d_Te_readFour_118 ?_
                    exact G_zretX _ hC hQ (by omega) (by omega) d_Te_readFour_119 (b2i_f (by rw [quadL] at hf; (repeat' split at hf); all_goals first | (exfalso; omega) | (rw [← hf]; rfl))) ⟨_, rfl, h_26, (fun v9 hv => by rw [hv, quadL] at hf; (repeat' split at hf); all_goals first | (exfalso; omega) | exact (Option.some.inj hf) | cases hf), (((fr_3.up (T := [t]) (by simp)).tr' (T := [t]) hfr (fun _ z => z) (by simp)).tr' (T := [t]) fr_27 (fun _ z => z) (by simp))⟩
          · refine G_iinc (lv' := [(5, vI (digits + 1)), (8, vI (atS b.2 k)), (0, .ref a), (1, .ref o), (2, vI q), (3, vI stop), (4, vI dots), (6, vI number), (7, vI k)]) hC 6 rfl (by rw [hN]; decide) rfl d_Te_readFour_45 ?_
            refine G_iload hC 7 rfl d_Te_readFour_48 ?_
            refine G_bipush (j := 10) hC (by decide +kernel) d_Te_readFour_50 ?_
            refine G_imul hC d_Te_readFour_52 ?_
            refine G_iload hC 1 rfl d_Te_readFour_53 ?_
            refine G_iadd hC d_Te_readFour_55 ?_
            refine G_bipush (j := 48) hC (by decide +kernel) d_Te_readFour_56 ?_
            refine G_isub hC d_Te_readFour_58 ?_
            refine G_istore (lv' := [(6, vI (((number * 10) + (atS b.2 k)) - 48)), (5, vI (digits + 1)), (8, vI (atS b.2 k)), (0, .ref a), (1, .ref o), (2, vI q), (3, vI stop), (4, vI dots), (7, vI k)]) hC (by rw [hN]; decide) rfl d_Te_readFour_59 ?_
            refine G_goto hC 110 (by decide) d_Te_readFour_61 ?_
            refine G_iload hC 0 rfl d_Te_readFour_110 ?_
            refine G_sipush (j := 255) hC (by decide +kernel) d_Te_readFour_112 ?_
            refine G_icmp_le hC 120 (by omega) (by decide) (by decide) d_Te_readFour_115 (fun c_29 => ?_) (fun c_29 => ?_)
            · refine G_iinc (lv' := [(7, vI (k + 1)), (6, vI (((number * 10) + (atS b.2 k)) - 48)), (5, vI (digits + 1)), (8, vI (atS b.2 k)), (0, .ref a), (1, .ref o), (2, vI q), (3, vI stop), (4, vI dots)]) hC 8 rfl (by rw [hN]; decide) rfl d_Te_readFour_120 ?_
              refine G_goto hC 17 (by decide) d_Te_readFour_123 ?_
              refine G_lv [4, 5, 6, 7, 8, 2, 1, 0] rfl ?_
              exact ih17 M1 dots (digits + 1) (((number * 10) + (atS b.2 k)) - 48) (k + 1) _ (by omega) (hfr.up (T := [t]) (by simp)) ho (by omega) (by rw [quadL] at hf; (repeat' split at hf); all_goals first | exact hf | (exfalso; omega))
            · refine G_iconst (i := 0) hC d_Te_readFour_118 ?_
              exact G_zretX _ hC hQ (by omega) (by omega) d_Te_readFour_119 (b2i_f (by rw [quadL] at hf; (repeat' split at hf); all_goals first | (exfalso; omega) | (rw [← hf]; rfl))) ⟨_, rfl, ho, (fun v9 hv => by rw [hv, quadL] at hf; (repeat' split at hf); all_goals first | (exfalso; omega) | exact (Option.some.inj hf) | cases hf), ((fr_3.up (T := [t]) (by simp)).tr' (T := [t]) hfr (fun _ z => z) (by simp))⟩
  refine G_lv [4, 5, 6, 7, 3, 2, 1, 0] rfl ?_
  exact L17 _ M_1 0 0 0 q _ (Nat.lt_succ_self _) Fr.rf h_2 (by omega) hr

set_option maxHeartbeats 4000000 in
set_option maxRecDepth 100000 in
theorem c_Te_readNetwork {l : Launch} {D : Dg} {b0 : Nat} {M : Mp} {a : Nat} {o : Nat} {q : Int} {stop : Int} {t : Nat} {k0 : Int} {s0 : Int} {n0 : Int} {w0 : Int32} {f0 : Int} {o0 : Int} {tt : Nat} {lim : Int} {b : Bv} {P : Option Tm} (h_obj_a : M a = some (t, .inr (cTe, [vI k0, vI s0, vI n0, .int w0, vI f0, vI o0]))) (h_B_o : IsB D M o tt lim b) (hq : -100000 ≤ q ∧ q ≤ 100000) (hst : -100000 ≤ stop ∧ stop ≤ 100000) (htt : tt ≠ t ∧ tt + 1 ≠ t) (hn0 : n0 = 32) (hr : ip4S b.2 q stop = P) : Ok l D b0 3 y_Te_readNetwork b_Te_readNetwork 5 (some .boolean) M [.ref a, .ref o, vI q, vI stop] 0 0 (fun r M' => ∃ n1 : Int, ∃ w1 : Int32, r = some (vI (b2i P.isSome)) ∧ M' a = some (t, .inr (cTe, [vI 4, vI s0, vI n1, .int w1, vI f0, vI o0])) ∧ (∀ tm, P = some tm → fld tm 4 n1 w1 f0 o0) ∧ Fr [t] M M') := by
  refine Ok_of rfl (Nat.le_of_ble_eq_true rfl) (fun E hC hQ hl hD hB hN hR => ?_)
  subst hl hD hB
  have hB9 := h_B_o.len
  show G E M 0 0 [(0, .ref a), (1, .ref o), (2, vI q), (3, vI stop)] [] 0
  refine G_aload_n hC 0 rfl rfl d_Te_readNetwork_0 ?_
  refine G_iconst (i := 4) hC d_Te_readNetwork_1 ?_
  refine G_putX (fs' := [vI 4, vI s0, vI n0, .int w0, vI f0, vI o0]) hC fl_Te_9 ft_Te fw_Te_0 h_obj_a rfl rfl (Nat.le_of_ble_eq_true rfl) rfl d_Te_readNetwork_2 (fun M_1 h_2 fr_3 => ?_)
  refine G_aload_n hC 1 rfl rfl d_Te_readNetwork_5 ?_
  refine G_bipush (j := 47) hC (by decide +kernel) d_Te_readNetwork_6 ?_
  refine G_iload_n hC 2 rfl rfl d_Te_readNetwork_8 ?_
  refine G_iload_n hC 3 rfl rfl d_Te_readNetwork_9 ?_
  have h_4 := h_B_o.fr fr_3 (by simp only [List.mem_cons, List.not_mem_nil, or_false, not_or, not_false_eq_true]; try omega) (by simp only [List.mem_cons, List.not_mem_nil, or_false, not_or, not_false_eq_true]; try omega)
  refine G_pV (rest := []) hC hR (c_By_find h_4 (by omega) (by omega) (by omega) rfl) cv_Te_40 h_4.obj (by decide) (by omega) (by omega) rfl rfl (Nat.le_of_ble_eq_true rfl) d_Te_readNetwork_10 ?_
  have g_5 := findS_rng b.2 47 q stop
  refine G_istore (lv' := [(4, vI (findS b.2 47 q stop)), (0, .ref a), (1, .ref o), (2, vI q), (3, vI stop)]) hC (by rw [hN]; decide) rfl d_Te_readNetwork_13 ?_
  refine G_aload_n hC 1 rfl rfl d_Te_readNetwork_15 ?_
  refine G_aload_n hC 2 rfl rfl d_Te_readNetwork_16 ?_
  refine G_iload_n hC 3 rfl rfl d_Te_readNetwork_17 ?_
  refine G_iload hC 0 rfl d_Te_readNetwork_18 ?_
  refine G_xV (rest := []) hC hR (c_Te_readFour h_2 h_4 (by omega) (by omega) (by omega) rfl) cv_Te_92 ⟨_, _, h_2⟩ (by decide) (by omega) (by omega) rfl rfl (Nat.le_of_ble_eq_true rfl) d_Te_readNetwork_20 (fun r_8 M_6 p_7 => ?_)
  obtain ⟨w1_9, rfl, h_10, h_11, fr_12⟩ := p_7
  show G E M_6 (0 + 0) (0 + 0) [(4, vI (findS b.2 47 q stop)), (0, .ref a), (1, .ref o), (2, vI q), (3, vI stop)] [vI (b2i (quadL b.2 (findS b.2 47 q stop) q 0 0 0 0).isSome)] 23
  refine G_if_eq hC 49 (by have := b2i_rng ((quadL b.2 (findS b.2 47 q stop) q 0 0 0 0).isSome); omega) (by decide) d_Te_readNetwork_23 (fun c_13 => ?_) (fun c_13 => ?_)
  · have c_13 := b2i_eq0.mp c_13
    refine G_iconst (i := 0) hC d_Te_readNetwork_49 ?_
    have hP : P = none := by rw [← hr, ip4_f1 (isS_f c_13)]
    exact G_zretX _ hC hQ (by omega) (by omega) d_Te_readNetwork_50 (b2i_f (by rw [hP]; rfl)) ⟨_, _, rfl, h_10, (fun tm htm => by rw [hP] at htm; cases htm), ((fr_3.up (T := [t]) (by simp)).tr' (T := [t]) fr_12 (fun _ z => z) (by simp))⟩
  · have c_13 := b2i_ne0.mp c_13
    refine G_iload hC 0 rfl d_Te_readNetwork_26 ?_
    refine G_iload_n hC 4 rfl rfl d_Te_readNetwork_28 ?_
    refine G_icmp_eq hC 45 (by omega) (by omega) (by decide) d_Te_readNetwork_29 (fun c_14 => ?_) (fun c_14 => ?_)
    · refine G_iconst (i := 1) hC d_Te_readNetwork_45 ?_
      refine G_goto hC 50 (by decide) d_Te_readNetwork_46 ?_
      obtain ⟨v1, hv1⟩ := isS_t c_13
      have hP : P = some (4, 32, v1, none) := by rw [← hr, ip4_s1 hv1 c_14]
      exact G_zretX _ hC hQ (by omega) (by omega) d_Te_readNetwork_50 (b2i_t (by rw [hP]; rfl)) ⟨_, _, rfl, h_10, (fun tm htm => by rw [hP] at htm; cases htm; exact ⟨rfl, fun _ => hn0, fun _ => h_11 _ hv1, (fun d hd => by cases hd), (fun _ z => absurd z (by show ¬ ((4 : Int) = 2 ∨ (4 : Int) = 3); decide))⟩), ((fr_3.up (T := [t]) (by simp)).tr' (T := [t]) fr_12 (fun _ z => z) (by simp))⟩
    · refine G_aload_n hC 1 rfl rfl d_Te_readNetwork_32 ?_
      refine G_aload_n hC 2 rfl rfl d_Te_readNetwork_33 ?_
      refine G_iload hC 0 rfl d_Te_readNetwork_34 ?_
      refine G_iconst (i := 1) hC d_Te_readNetwork_36 ?_
      refine G_iadd hC d_Te_readNetwork_37 ?_
      refine G_iload_n hC 4 rfl rfl d_Te_readNetwork_38 ?_
      have h_15 := h_4.fr fr_12 (by simp only [List.mem_cons, List.not_mem_nil, or_false, not_or, not_false_eq_true]; try omega) (by simp only [List.mem_cons, List.not_mem_nil, or_false, not_or, not_false_eq_true]; try omega)
      refine G_xV (rest := []) hC hR (c_Te_readBits h_10 h_15 (by omega) (by omega) (by omega) rfl) cv_Te_89 ⟨_, _, h_10⟩ (by decide) (by omega) (by omega) rfl rfl (Nat.le_of_ble_eq_true rfl) d_Te_readNetwork_39 (fun r_18 M_16 p_17 => ?_)
      obtain ⟨n1_19, rfl, h_20, h_21, fr_22⟩ := p_17
      show G E M_16 (0 + 0 + 0) (0 + 0 + 0) [(4, vI (findS b.2 47 q stop)), (0, .ref a), (1, .ref o), (2, vI q), (3, vI stop)] [vI (b2i (bitsS b.2 ((findS b.2 47 q stop) + 1) stop).isSome)] 42
      refine G_if_eq hC 49 (by have := b2i_rng ((bitsS b.2 ((findS b.2 47 q stop) + 1) stop).isSome); omega) (by decide) d_Te_readNetwork_42 (fun c_23 => ?_) (fun c_23 => ?_)
      · have c_23 := b2i_eq0.mp c_23
        refine G_iconst (i := 0) hC d_Te_readNetwork_49 ?_
        have hP : P = none := by rw [← hr, ip4_f2 c_14 (isS_f c_23)]
        exact G_zretX _ hC hQ (by omega) (by omega) d_Te_readNetwork_50 (b2i_f (by rw [hP]; rfl)) ⟨_, _, rfl, h_20, (fun tm htm => by rw [hP] at htm; cases htm), (((fr_3.up (T := [t]) (by simp)).tr' (T := [t]) fr_12 (fun _ z => z) (by simp)).tr' (T := [t]) fr_22 (fun _ z => z) (by simp))⟩
      · have c_23 := b2i_ne0.mp c_23
        refine G_iconst (i := 1) hC d_Te_readNetwork_45 ?_
        refine G_goto hC 50 (by decide) d_Te_readNetwork_46 ?_
        obtain ⟨v1, hv1⟩ := isS_t c_13
        obtain ⟨v2, hv2⟩ := isS_t c_23
        have hP : P = some (4, v2, v1, none) := by rw [← hr, ip4_s2 hv1 c_14 hv2]
        exact G_zretX _ hC hQ (by omega) (by omega) d_Te_readNetwork_50 (b2i_t (by rw [hP]; rfl)) ⟨_, _, rfl, h_20, (fun tm htm => by rw [hP] at htm; cases htm; exact ⟨rfl, fun _ => h_21 _ hv2, fun _ => h_11 _ hv1, (fun d hd => by cases hd), (fun _ z => absurd z (by show ¬ ((4 : Int) = 2 ∨ (4 : Int) = 3); decide))⟩), (((fr_3.up (T := [t]) (by simp)).tr' (T := [t]) fr_12 (fun _ z => z) (by simp)).tr' (T := [t]) fr_22 (fun _ z => z) (by simp))⟩

set_option maxHeartbeats 4000000 in
set_option maxRecDepth 100000 in
theorem c_Te_readHost {l : Launch} {D : Dg} {b0 : Nat} {M : Mp} {a : Nat} {rd : Int} {o : Nat} {q : Int} {stop : Int} {t : Nat} {k0 : Int} {s0 : Int} {n0 : Int} {w0 : Int32} {f0 : Int} {o0 : Int} {tt : Nat} {lim : Int} {b : Bv} {P : Option Tm} (h_obj_a : M a = some (t, .inr (cTe, [vI k0, vI s0, vI n0, .int w0, vI f0, vI o0]))) (h_B_o : IsB D M o tt lim b) (hq : -100000 ≤ q ∧ q ≤ 100000) (hst : -100000 ≤ stop ∧ stop ≤ 100000) (htt : tt ≠ t ∧ tt + 1 ≠ t) (hn0 : n0 = 32) (hfo : f0 = o0) (hrd : rd = 2 ∨ rd = 3) (hr : hostS b.2 rd q stop = P) : Ok l D b0 6 y_Te_readHost b_Te_readHost 6 (some .boolean) M [.ref a, vI rd, .ref o, vI q, vI stop] 0 0 (fun r M' => ∃ n1 : Int, ∃ f1 : Int, ∃ o1 : Int, r = some (vI (b2i P.isSome)) ∧ M' a = some (t, .inr (cTe, [vI rd, vI s0, vI n1, .int w0, vI f1, vI o1])) ∧ (∀ tm, P = some tm → fld tm rd n1 w0 f1 o1) ∧ Fr [t] M M') := by
  refine Ok_of rfl (Nat.le_of_ble_eq_true rfl) (fun E hC hQ hl hD hB hN hR => ?_)
  subst hl hD hB
  have hB9 := h_B_o.len
  show G E M 0 0 [(0, .ref a), (1, vI rd), (2, .ref o), (3, vI q), (4, vI stop)] [] 0
  refine G_aload_n hC 0 rfl rfl d_Te_readHost_0 ?_
  refine G_iload_n hC 1 rfl rfl d_Te_readHost_1 ?_
  refine G_putX (fs' := [vI rd, vI s0, vI n0, .int w0, vI f0, vI o0]) hC fl_Te_9 ft_Te fw_Te_0 h_obj_a rfl rfl (Nat.le_of_ble_eq_true rfl) rfl d_Te_readHost_2 (fun M_1 h_2 fr_3 => ?_)
  refine G_aload_n hC 2 rfl rfl d_Te_readHost_5 ?_
  refine G_bipush (j := 47) hC (by decide +kernel) d_Te_readHost_6 ?_
  refine G_iload_n hC 3 rfl rfl d_Te_readHost_8 ?_
  refine G_iload hC 4 rfl d_Te_readHost_9 ?_
  have h_4 := h_B_o.fr fr_3 (by simp only [List.mem_cons, List.not_mem_nil, or_false, not_or, not_false_eq_true]; try omega) (by simp only [List.mem_cons, List.not_mem_nil, or_false, not_or, not_false_eq_true]; try omega)
  refine G_pV (rest := []) hC hR (c_By_find h_4 (by omega) (by omega) (by omega) rfl) cv_Te_40 h_4.obj (by decide) (by omega) (by omega) rfl rfl (Nat.le_of_ble_eq_true rfl) d_Te_readHost_11 ?_
  have g_5 := findS_rng b.2 47 q stop
  refine G_istore (lv' := [(5, vI (findS b.2 47 q stop)), (0, .ref a), (1, vI rd), (2, .ref o), (3, vI q), (4, vI stop)]) hC (by rw [hN]; decide) rfl d_Te_readHost_14 ?_
  refine G_iload_n hC 4 rfl rfl d_Te_readHost_16 ?_
  refine G_iload hC 0 rfl d_Te_readHost_17 ?_
  refine G_icmp_ge hC 62 (by omega) (by omega) (by decide) d_Te_readHost_19 (fun c_6 => ?_) (fun c_6 => ?_)
  · refine G_iload hC 0 rfl d_Te_readHost_62 ?_
    refine G_iload hC 5 rfl d_Te_readHost_64 ?_
    refine G_icmp_eq hC 83 (by omega) (by omega) (by decide) d_Te_readHost_66 (fun c_7 => ?_) (fun c_7 => ?_)
    · refine G_iconst (i := 1) hC d_Te_readHost_83 ?_
      refine G_goto hC 88 (by decide) d_Te_readHost_84 ?_
      have hP : P = some (rd, 32, 0, none) := by rw [← hr, host_s1 (fun z => absurd z (by omega)) c_7, if_neg (show ¬ q < findS b.2 47 q stop by omega)]
      exact G_zretX _ hC hQ (by omega) (by omega) d_Te_readHost_88 (b2i_t (by rw [hP]; rfl)) ⟨_, _, _, rfl, h_2, (fun tm htm => by rw [hP] at htm; cases htm; exact ⟨rfl, fun _ => hn0, fun z => absurd z (by show ¬ rd = 4; omega), (fun d hd => by cases hd), (fun _ _ => hfo)⟩), (fr_3.up (T := [t]) (by simp))⟩
    · refine G_aload_n hC 1 rfl rfl d_Te_readHost_69 ?_
      refine G_aload_n hC 3 rfl rfl d_Te_readHost_70 ?_
      refine G_iload hC 0 rfl d_Te_readHost_71 ?_
      refine G_iconst (i := 1) hC d_Te_readHost_73 ?_
      refine G_iadd hC d_Te_readHost_74 ?_
      refine G_iload hC 5 rfl d_Te_readHost_75 ?_
      refine G_xV (rest := []) hC hR (c_Te_readBits h_2 h_4 (by omega) (by omega) (by omega) rfl) cv_Te_89 ⟨_, _, h_2⟩ (by decide) (by omega) (by omega) rfl rfl (Nat.le_of_ble_eq_true rfl) d_Te_readHost_77 (fun r_10 M_8 p_9 => ?_)
      obtain ⟨n1_11, rfl, h_12, h_13, fr_14⟩ := p_9
      show G E M_8 (0 + 0) (0 + 0) [(5, vI (findS b.2 47 q stop)), (0, .ref a), (1, vI rd), (2, .ref o), (3, vI q), (4, vI stop)] [vI (b2i (bitsS b.2 ((findS b.2 47 q stop) + 1) stop).isSome)] 80
      refine G_if_eq hC 87 (by have := b2i_rng ((bitsS b.2 ((findS b.2 47 q stop) + 1) stop).isSome); omega) (by decide) d_Te_readHost_80 (fun c_15 => ?_) (fun c_15 => ?_)
      · have c_15 := b2i_eq0.mp c_15
        refine G_iconst (i := 0) hC d_Te_readHost_87 ?_
        have hP : P = none := by rw [← hr, host_f2 c_7 (isS_f c_15)]
        exact G_zretX _ hC hQ (by omega) (by omega) d_Te_readHost_88 (b2i_f (by rw [hP]; rfl)) ⟨_, _, _, rfl, h_12, (fun tm htm => by rw [hP] at htm; cases htm), ((fr_3.up (T := [t]) (by simp)).tr' (T := [t]) fr_14 (fun _ z => z) (by simp))⟩
      · have c_15 := b2i_ne0.mp c_15
        refine G_iconst (i := 1) hC d_Te_readHost_83 ?_
        refine G_goto hC 88 (by decide) d_Te_readHost_84 ?_
        obtain ⟨v2, hv2⟩ := isS_t c_15
        have hP : P = some (rd, v2, 0, none) := by rw [← hr, host_s2 (fun z => absurd z (by omega)) c_7 hv2, if_neg (show ¬ q < findS b.2 47 q stop by omega)]
        exact G_zretX _ hC hQ (by omega) (by omega) d_Te_readHost_88 (b2i_t (by rw [hP]; rfl)) ⟨_, _, _, rfl, h_12, (fun tm htm => by rw [hP] at htm; cases htm; exact ⟨rfl, fun _ => h_13 _ hv2, fun z => absurd z (by show ¬ rd = 4; omega), (fun d hd => by cases hd), (fun _ _ => hfo)⟩), ((fr_3.up (T := [t]) (by simp)).tr' (T := [t]) fr_14 (fun _ z => z) (by simp))⟩
  · refine G_aload_n hC 1 rfl rfl d_Te_readHost_22 ?_
    refine G_iload_n hC 4 rfl rfl d_Te_readHost_23 ?_
    refine G_iconst (i := 1) hC d_Te_readHost_24 ?_
    refine G_iadd hC d_Te_readHost_25 ?_
    refine G_putX (fs' := [vI rd, vI s0, vI n0, .int w0, vI (q + 1), vI o0]) hC fl_Te_21 ft_Te fw_Te_4 h_2 rfl rfl (Nat.le_of_ble_eq_true rfl) rfl d_Te_readHost_26 (fun M_16 h_17 fr_18 => ?_)
    refine G_aload_n hC 1 rfl rfl d_Te_readHost_29 ?_
    refine G_iload hC 0 rfl d_Te_readHost_30 ?_
    refine G_putX (fs' := [vI rd, vI s0, vI n0, .int w0, vI (q + 1), vI (findS b.2 47 q stop)]) hC fl_Te_24 ft_Te fw_Te_5 h_17 rfl rfl (Nat.le_of_ble_eq_true rfl) rfl d_Te_readHost_32 (fun M_19 h_20 fr_21 => ?_)
    refine G_aload_n hC 3 rfl rfl d_Te_readHost_35 ?_
    refine G_iload_n hC 4 rfl rfl d_Te_readHost_36 ?_
    have h_22 := h_4.fr fr_18 (by simp only [List.mem_cons, List.not_mem_nil, or_false, not_or, not_false_eq_true]; try omega) (by simp only [List.mem_cons, List.not_mem_nil, or_false, not_or, not_false_eq_true]; try omega)
    have h_23 := h_22.fr fr_21 (by simp only [List.mem_cons, List.not_mem_nil, or_false, not_or, not_false_eq_true]; try omega) (by simp only [List.mem_cons, List.not_mem_nil, or_false, not_or, not_false_eq_true]; try omega)
    refine G_pV (rest := []) hC hR (c_By_at h_23 (by omega)) cv_Te_30 h_23.obj (by decide) (by omega) (by omega) rfl rfl (Nat.le_of_ble_eq_true rfl) d_Te_readHost_37 ?_
    have g_24 := h_23.at_rng q
    refine G_bipush (j := 58) hC (by decide +kernel) d_Te_readHost_40 ?_
    refine G_icmp_ne hC 60 (by omega) (by decide) (by decide) d_Te_readHost_42 (fun c_25 => ?_) (fun c_25 => ?_)
    · refine G_iconst (i := 0) hC d_Te_readHost_60 ?_
      have hP : P = none := by rw [← hr, host_f1 (by omega) (fun z => by first | exact absurd z.1 c_25 | (have z2 := z.2; rw [z2] at c_25; cases c_25))]
      exact G_zretX _ hC hQ (by omega) (by omega) d_Te_readHost_61 (b2i_f (by rw [hP]; rfl)) ⟨_, _, _, rfl, h_20, (fun tm htm => by rw [hP] at htm; cases htm), (((fr_3.up (T := [t]) (by simp)).tr' (T := [t]) fr_18 (fun _ z => z) (by simp)).tr' (T := [t]) fr_21 (fun _ z => z) (by simp))⟩
    · refine G_aload_n hC 3 rfl rfl d_Te_readHost_45 ?_
      refine G_aload_n hC 1 rfl rfl d_Te_readHost_46 ?_
      refine G_get hC fl_Te_21 h_20 rfl d_Te_readHost_47 ?_
      refine G_aload_n hC 1 rfl rfl d_Te_readHost_50 ?_
      refine G_get hC fl_Te_24 h_20 rfl d_Te_readHost_51 ?_
      refine G_pS (rest := []) hC hR (c_Ma_isTarget h_23 (by omega) (by omega) rfl) cs_Te_84 (by decide) (by omega) (by omega) rfl rfl (Nat.le_of_ble_eq_true rfl) d_Te_readHost_54 ?_
      refine G_if_ne hC 62 (by have := b2i_rng (targS b.2 (q + 1) (findS b.2 47 q stop)); omega) (by decide) d_Te_readHost_57 (fun c_26 => ?_) (fun c_26 => ?_)
      · have c_26 := b2i_ne0.mp c_26
        refine G_iload hC 0 rfl d_Te_readHost_62 ?_
        refine G_iload hC 5 rfl d_Te_readHost_64 ?_
        refine G_icmp_eq hC 83 (by omega) (by omega) (by decide) d_Te_readHost_66 (fun c_27 => ?_) (fun c_27 => ?_)
        · refine G_iconst (i := 1) hC d_Te_readHost_83 ?_
          refine G_goto hC 88 (by decide) d_Te_readHost_84 ?_
          have hP : P = some (rd, 32, 0, some (q + 1, findS b.2 47 q stop)) := by rw [← hr, host_s1 (fun _ => ⟨c_25, c_26⟩) c_27, if_pos (show q < findS b.2 47 q stop by omega)]
          exact G_zretX _ hC hQ (by omega) (by omega) d_Te_readHost_88 (b2i_t (by rw [hP]; rfl)) ⟨_, _, _, rfl, h_20, (fun tm htm => by rw [hP] at htm; cases htm; exact ⟨rfl, fun _ => hn0, fun z => absurd z (by show ¬ rd = 4; omega), (fun d hd => by cases hd; exact ⟨rfl, rfl⟩), (fun z => by cases z)⟩), (((fr_3.up (T := [t]) (by simp)).tr' (T := [t]) fr_18 (fun _ z => z) (by simp)).tr' (T := [t]) fr_21 (fun _ z => z) (by simp))⟩
        · refine G_aload_n hC 1 rfl rfl d_Te_readHost_69 ?_
          refine G_aload_n hC 3 rfl rfl d_Te_readHost_70 ?_
          refine G_iload hC 0 rfl d_Te_readHost_71 ?_
          refine G_iconst (i := 1) hC d_Te_readHost_73 ?_
          refine G_iadd hC d_Te_readHost_74 ?_
          refine G_iload hC 5 rfl d_Te_readHost_75 ?_
          refine G_xV (rest := []) hC hR (c_Te_readBits h_20 h_23 (by omega) (by omega) (by omega) rfl) cv_Te_89 ⟨_, _, h_20⟩ (by decide) (by omega) (by omega) rfl rfl (Nat.le_of_ble_eq_true rfl) d_Te_readHost_77 (fun r_30 M_28 p_29 => ?_)
          obtain ⟨n1_31, rfl, h_32, h_33, fr_34⟩ := p_29
          show G E M_28 (0 + 0) (0 + 0) [(5, vI (findS b.2 47 q stop)), (0, .ref a), (1, vI rd), (2, .ref o), (3, vI q), (4, vI stop)] [vI (b2i (bitsS b.2 ((findS b.2 47 q stop) + 1) stop).isSome)] 80
          refine G_if_eq hC 87 (by have := b2i_rng ((bitsS b.2 ((findS b.2 47 q stop) + 1) stop).isSome); omega) (by decide) d_Te_readHost_80 (fun c_35 => ?_) (fun c_35 => ?_)
          · have c_35 := b2i_eq0.mp c_35
            refine G_iconst (i := 0) hC d_Te_readHost_87 ?_
            have hP : P = none := by rw [← hr, host_f2 c_27 (isS_f c_35)]
            exact G_zretX _ hC hQ (by omega) (by omega) d_Te_readHost_88 (b2i_f (by rw [hP]; rfl)) ⟨_, _, _, rfl, h_32, (fun tm htm => by rw [hP] at htm; cases htm), ((((fr_3.up (T := [t]) (by simp)).tr' (T := [t]) fr_18 (fun _ z => z) (by simp)).tr' (T := [t]) fr_21 (fun _ z => z) (by simp)).tr' (T := [t]) fr_34 (fun _ z => z) (by simp))⟩
          · have c_35 := b2i_ne0.mp c_35
            refine G_iconst (i := 1) hC d_Te_readHost_83 ?_
            refine G_goto hC 88 (by decide) d_Te_readHost_84 ?_
            obtain ⟨v2, hv2⟩ := isS_t c_35
            have hP : P = some (rd, v2, 0, some (q + 1, findS b.2 47 q stop)) := by rw [← hr, host_s2 (fun _ => ⟨c_25, c_26⟩) c_27 hv2, if_pos (show q < findS b.2 47 q stop by omega)]
            exact G_zretX _ hC hQ (by omega) (by omega) d_Te_readHost_88 (b2i_t (by rw [hP]; rfl)) ⟨_, _, _, rfl, h_32, (fun tm htm => by rw [hP] at htm; cases htm; exact ⟨rfl, fun _ => h_33 _ hv2, fun z => absurd z (by show ¬ rd = 4; omega), (fun d hd => by cases hd; exact ⟨rfl, rfl⟩), (fun z => by cases z)⟩), ((((fr_3.up (T := [t]) (by simp)).tr' (T := [t]) fr_18 (fun _ z => z) (by simp)).tr' (T := [t]) fr_21 (fun _ z => z) (by simp)).tr' (T := [t]) fr_34 (fun _ z => z) (by simp))⟩
      · have c_26 := b2i_eq0.mp c_26
        refine G_iconst (i := 0) hC d_Te_readHost_60 ?_
        have hP : P = none := by rw [← hr, host_f1 (by omega) (fun z => by first | exact absurd z.1 c_26 | (have z2 := z.2; rw [z2] at c_26; cases c_26))]
        exact G_zretX _ hC hQ (by omega) (by omega) d_Te_readHost_61 (b2i_f (by rw [hP]; rfl)) ⟨_, _, _, rfl, h_20, (fun tm htm => by rw [hP] at htm; cases htm), (((fr_3.up (T := [t]) (by simp)).tr' (T := [t]) fr_18 (fun _ z => z) (by simp)).tr' (T := [t]) fr_21 (fun _ z => z) (by simp))⟩

set_option maxHeartbeats 4000000 in
set_option maxRecDepth 100000 in
theorem c_Te_readOther {l : Launch} {D : Dg} {b0 : Nat} {M : Mp} {a : Nat} {o : Nat} {q : Int} {stop : Int} {t : Nat} {k0 : Int} {s0 : Int} {n0 : Int} {w0 : Int32} {f0 : Int} {o0 : Int} {tt : Nat} {lim : Int} {b : Bv} (h_obj_a : M a = some (t, .inr (cTe, [vI k0, vI s0, vI n0, .int w0, vI f0, vI o0]))) (h_B_o : IsB D M o tt lim b) (hq : -100000 ≤ q ∧ q ≤ 100000) (hst : -100000 ≤ stop ∧ stop ≤ 100000) (htt : tt ≠ t ∧ tt + 1 ≠ t) : Ok l D b0 6 y_Te_readOther b_Te_readOther 5 (some .boolean) M [.ref a, .ref o, vI q, vI stop] 0 0 (fun r M' => r = some (vI (b2i (altO b.2 q stop).isSome)) ∧ M' a = some (t, .inr (cTe, [vI 7, vI s0, vI n0, .int w0, vI f0, vI o0])) ∧ Fr [t] M M') := by
  refine Ok_of rfl (Nat.le_of_ble_eq_true rfl) (fun E hC hQ hl hD hB hN hR => ?_)
  subst hl hD hB
  have hB9 := h_B_o.len
  show G E M 0 0 [(0, .ref a), (1, .ref o), (2, vI q), (3, vI stop)] [] 0
  refine G_aload_n hC 0 rfl rfl d_Te_readOther_0 ?_
  refine G_bipush (j := 7) hC (by decide +kernel) d_Te_readOther_1 ?_
  refine G_putX (fs' := [vI 7, vI s0, vI n0, .int w0, vI f0, vI o0]) hC fl_Te_9 ft_Te fw_Te_0 h_obj_a rfl rfl (Nat.le_of_ble_eq_true rfl) rfl d_Te_readOther_3 (fun M_1 h_2 fr_3 => ?_)
  refine G_aload_n hC 1 rfl rfl d_Te_readOther_6 ?_
  refine G_bipush (j := 61) hC (by decide +kernel) d_Te_readOther_7 ?_
  refine G_iload_n hC 2 rfl rfl d_Te_readOther_9 ?_
  refine G_iload_n hC 3 rfl rfl d_Te_readOther_10 ?_
  have h_4 := h_B_o.fr fr_3 (by simp only [List.mem_cons, List.not_mem_nil, or_false, not_or, not_false_eq_true]; try omega) (by simp only [List.mem_cons, List.not_mem_nil, or_false, not_or, not_false_eq_true]; try omega)
  refine G_pV (rest := []) hC hR (c_By_find h_4 (by omega) (by omega) (by omega) rfl) cv_Te_40 h_4.obj (by decide) (by omega) (by omega) rfl rfl (Nat.le_of_ble_eq_true rfl) d_Te_readOther_11 ?_
  have g_5 := findS_rng b.2 61 q stop
  refine G_istore (lv' := [(4, vI (findS b.2 61 q stop)), (0, .ref a), (1, .ref o), (2, vI q), (3, vI stop)]) hC (by rw [hN]; decide) rfl d_Te_readOther_14 ?_
  refine G_iload hC 0 rfl d_Te_readOther_16 ?_
  refine G_iload_n hC 4 rfl rfl d_Te_readOther_18 ?_
  refine G_icmp_ge hC 47 (by omega) (by omega) (by decide) d_Te_readOther_19 (fun c_6 => ?_) (fun c_6 => ?_)
  · refine G_iconst (i := 0) hC d_Te_readOther_47 ?_
    exact G_zretX _ hC hQ (by omega) (by omega) d_Te_readOther_48 (b2i_f (by unfold altO otherS; rw [if_neg (fun z => by obtain ⟨z1, z2⟩ := z; obtain ⟨z3, z4⟩ := Bool.and_eq_true_iff.mp z1; have z5 := of_decide_eq_true z3; first | omega | (rw [z4] at c_6; cases c_6) | (rw [z2] at c_6; cases c_6))]; rfl)) ⟨rfl, h_2, (fr_3.up (T := [t]) (by simp))⟩
  · refine G_aload_n hC 2 rfl rfl d_Te_readOther_22 ?_
    refine G_iload_n hC 3 rfl rfl d_Te_readOther_23 ?_
    refine G_iload hC 0 rfl d_Te_readOther_24 ?_
    refine G_pS (rest := []) hC hR (c_Si_isWord h_4 (by omega) (by omega) rfl) cs_Te_79 (by decide) (by omega) (by omega) rfl rfl (Nat.le_of_ble_eq_true rfl) d_Te_readOther_26 ?_
    refine G_if_eq hC 47 (by have := b2i_rng (wordS b.2 q (findS b.2 61 q stop)); omega) (by decide) d_Te_readOther_29 (fun c_7 => ?_) (fun c_7 => ?_)
    · have c_7 := b2i_eq0.mp c_7
      refine G_iconst (i := 0) hC d_Te_readOther_47 ?_
      exact G_zretX _ hC hQ (by omega) (by omega) d_Te_readOther_48 (b2i_f (by unfold altO otherS; rw [if_neg (fun z => by obtain ⟨z1, z2⟩ := z; obtain ⟨z3, z4⟩ := Bool.and_eq_true_iff.mp z1; have z5 := of_decide_eq_true z3; first | omega | (rw [z4] at c_7; cases c_7) | (rw [z2] at c_7; cases c_7))]; rfl)) ⟨rfl, h_2, (fr_3.up (T := [t]) (by simp))⟩
    · have c_7 := b2i_ne0.mp c_7
      refine G_aload_n hC 2 rfl rfl d_Te_readOther_32 ?_
      refine G_ldcS (tx := "redirect=") (i := 7) hC (by decide) d_Te_readOther_33 ?_
      refine G_iload_n hC 3 rfl rfl d_Te_readOther_35 ?_
      refine G_iload_n hC 4 rfl rfl d_Te_readOther_36 ?_
      refine G_pV (rest := []) hC hR (c_By_has h_4 (by decide) (by omega) (by omega)) cv_Te_50 h_4.obj (by decide) (by omega) (by omega) rfl rfl (Nat.le_of_ble_eq_true rfl) d_Te_readOther_37 ?_
      refine G_if_ne hC 47 (by have := b2i_rng (hasS b.2 (wrd 7) q stop); omega) (by decide) d_Te_readOther_40 (fun c_8 => ?_) (fun c_8 => ?_)
      · have c_8 := b2i_ne0.mp c_8
        refine G_iconst (i := 0) hC d_Te_readOther_47 ?_
        exact G_zretX _ hC hQ (by omega) (by omega) d_Te_readOther_48 (b2i_f (by unfold altO otherS; rw [if_neg (fun z => by obtain ⟨z1, z2⟩ := z; obtain ⟨z3, z4⟩ := Bool.and_eq_true_iff.mp z1; have z5 := of_decide_eq_true z3; first | omega | (rw [z4] at c_8; cases c_8) | (rw [z2] at c_8; cases c_8))]; rfl)) ⟨rfl, h_2, (fr_3.up (T := [t]) (by simp))⟩
      · have c_8 := b2i_eq0.mp c_8
        refine G_iconst (i := 1) hC d_Te_readOther_43 ?_
        refine G_goto hC 48 (by decide) d_Te_readOther_44 ?_
        exact G_zretX _ hC hQ (by omega) (by omega) d_Te_readOther_48 (b2i_t (by unfold altO otherS; rw [if_pos ⟨by rw [decide_eq_true (by omega), c_7]; rfl, c_8⟩]; rfl)) ⟨rfl, h_2, (fr_3.up (T := [t]) (by simp))⟩

set_option maxHeartbeats 4000000 in
set_option maxRecDepth 100000 in
theorem c_Te_read {l : Launch} {D : Dg} {b0 : Nat} {M : Mp} {a : Nat} {o : Nat} {start : Int} {t : Nat} {k0 : Int} {s0 : Int} {n0 : Int} {w0 : Int32} {f0 : Int} {o0 : Int} {tt : Nat} {lim : Int} {b : Bv} {P : Option Tm} (h_obj_a : M a = some (t, .inr (cTe, [vI k0, vI s0, vI n0, .int w0, vI f0, vI o0]))) (h_B_o : IsB D M o tt lim b) (hq : 0 ≤ start ∧ start < b.2.length) (htt : tt ≠ t ∧ tt + 1 ≠ t) (hr : readS b.2 start = P) : Ok l D b0 7 y_Te_read b_Te_read 7 (some .boolean) M [.ref a, .ref o, vI start] 0 0 (fun r M' => ∃ k1 : Int, ∃ n1 : Int, ∃ w1 : Int32, ∃ f1 : Int, ∃ o1 : Int, r = some (vI (b2i P.isSome)) ∧ M' a = some (t, .inr (cTe, [vI k1, vI (sgnS b.2 start), vI n1, .int w1, vI f1, vI o1])) ∧ (∀ tm, P = some tm → fld tm k1 n1 w1 f1 o1) ∧ Fr [t] M M') := by
  refine Ok_of rfl (Nat.le_of_ble_eq_true rfl) (fun E hC hQ hl hD hB hN hR => ?_)
  subst hl hD hB
  have hB9 := h_B_o.len
  unfold readS at hr
  show G E M 0 0 [(0, .ref a), (1, .ref o), (2, vI start)] [] 0
  refine G_aload_n hC 1 rfl rfl d_Te_read_0 ?_
  refine G_bipush (j := 32) hC (by decide +kernel) d_Te_read_1 ?_
  refine G_iload_n hC 2 rfl rfl d_Te_read_3 ?_
  refine G_aload_n hC 1 rfl rfl d_Te_read_4 ?_
  refine G_pV (rest := [vI start, vI 32, .ref o]) hC hR (c_By_size h_B_o) cv_Te_36 h_B_o.obj (by decide) (by omega) (by omega) rfl rfl (Nat.le_of_ble_eq_true rfl) d_Te_read_5 ?_
  have g_1 := h_B_o.len
  refine G_pV (rest := []) hC hR (c_By_find h_B_o (by omega) (by omega) (by omega) rfl) cv_Te_40 h_B_o.obj (by decide) (by omega) (by omega) rfl rfl (Nat.le_of_ble_eq_true rfl) d_Te_read_8 ?_
  have g_2 := findS_rng b.2 32 start (b.2.length : Int)
  refine G_istore_n (lv' := [(3, vI (findS b.2 32 start (b.2.length : Int))), (0, .ref a), (1, .ref o), (2, vI start)]) hC rfl (by rw [hN]; decide) rfl d_Te_read_11 ?_
  generalize hst9 : findS b.2 32 start (b.2.length : Int) = stop at *
  refine G_aload_n hC 2 rfl rfl d_Te_read_12 ?_
  refine G_iload_n hC 3 rfl rfl d_Te_read_13 ?_
  refine G_pV (rest := []) hC hR (c_By_at h_B_o (by omega)) cv_Te_30 h_B_o.obj (by decide) (by omega) (by omega) rfl rfl (Nat.le_of_ble_eq_true rfl) d_Te_read_14 ?_
  have g_3 := h_B_o.at_rng start
  refine G_istore (lv' := [(4, vI (atS b.2 start)), (3, vI stop), (0, .ref a), (1, .ref o), (2, vI start)]) hC (by rw [hN]; decide) rfl d_Te_read_17 ?_
  have J54 : ∀ (sgv : Int), (sgv = b2i (decide (sgP (atS b.2 start)))) → G E M 0 0 [(0, .ref a), (1, .ref o), (2, vI start), (3, vI stop), (4, vI (atS b.2 start)), (5, vI sgv)] [] 54 := by
    intro sgv hsg
    rcases Decidable.em (sgP (atS b.2 start)) with hs | hs
    · obtain rfl : sgv = 1 := by rw [hsg, decide_eq_true hs]; rfl
      rw [if_pos hs, decide_eq_true hs] at hr
      refine G_iload hC 5 rfl d_Te_read_54 ?_
      refine G_if_eq hC 65 (by decide) (by decide) d_Te_read_56 (fun c_4 => ?_) (fun c_4 => ?_)
      · exact (show False from by omega).elim
      · refine G_iload_n hC 2 rfl rfl d_Te_read_59 ?_
        refine G_iconst (i := 1) hC d_Te_read_60 ?_
        refine G_iadd hC d_Te_read_61 ?_
        refine G_goto hC 66 (by decide) d_Te_read_62 ?_
        refine G_istore (lv' := [(6, vI (start + 1)), (0, .ref a), (1, .ref o), (2, vI start), (3, vI stop), (4, vI (atS b.2 start)), (5, vI 1)]) hC (by rw [hN]; decide) rfl d_Te_read_66 ?_
        refine G_aload_n hC 1 rfl rfl d_Te_read_68 ?_
        refine G_iload hC 6 rfl d_Te_read_69 ?_
        refine G_if_eq hC 79 (by decide) (by decide) d_Te_read_71 (fun c_5 => ?_) (fun c_5 => ?_)
        · exact (show False from by omega).elim
        · refine G_iload hC 5 rfl d_Te_read_74 ?_
          refine G_goto hC 81 (by decide) d_Te_read_76 ?_
          refine G_putX (fs' := [vI k0, vI (atS b.2 start), vI n0, .int w0, vI f0, vI o0]) hC fl_Te_27 ft_Te fw_Te_1 h_obj_a rfl rfl (Nat.le_of_ble_eq_true rfl) rfl d_Te_read_81 (fun M_6 h_7 fr_8 => ?_)
          refine G_aload_n hC 1 rfl rfl d_Te_read_84 ?_
          refine G_bipush (j := 32) hC (by decide +kernel) d_Te_read_85 ?_
          refine G_putX (fs' := [vI k0, vI (atS b.2 start), vI 32, .int w0, vI f0, vI o0]) hC fl_Te_15 ft_Te fw_Te_2 h_7 rfl rfl (Nat.le_of_ble_eq_true rfl) rfl d_Te_read_87 (fun M_9 h_10 fr_11 => ?_)
          refine G_aload_n hC 1 rfl rfl d_Te_read_90 ?_
          refine G_iload_n hC 4 rfl rfl d_Te_read_91 ?_
          refine G_putX (fs' := [vI k0, vI (atS b.2 start), vI 32, .int w0, vI stop, vI o0]) hC fl_Te_21 ft_Te fw_Te_4 h_10 rfl rfl (Nat.le_of_ble_eq_true rfl) rfl d_Te_read_92 (fun M_12 h_13 fr_14 => ?_)
          refine G_aload_n hC 1 rfl rfl d_Te_read_95 ?_
          refine G_iload_n hC 4 rfl rfl d_Te_read_96 ?_
          refine G_putX (fs' := [vI k0, vI (atS b.2 start), vI 32, .int w0, vI stop, vI stop]) hC fl_Te_24 ft_Te fw_Te_5 h_13 rfl rfl (Nat.le_of_ble_eq_true rfl) rfl d_Te_read_97 (fun M_15 h_16 fr_17 => ?_)
          have J275 : ∀ (M275 : Mp) (k1 : Int) (n1 : Int) (w1 : Int32) (f1 : Int) (o1 : Int), (Fr [t] M_15 M275) → (M275 a = some (t, .inr (cTe, [vI k1, vI (atS b.2 start), vI n1, .int w1, vI f1, vI o1]))) → (rs7 b.2 (start + 1) stop true = P) → G E M275 0 0 [(0, .ref a), (1, .ref o), (2, vI start), (3, vI stop), (4, vI (atS b.2 start)), (5, vI 1), (6, vI (start + 1))] [] 275 := by
            intro M275 k1 n1 w1 f1 o1 hfr275 ho275 hrs275
            refine G_iload hC 5 rfl d_Te_read_275 ?_
            refine G_if_ne hC 295 (by decide) (by decide) d_Te_read_277 (fun c_18 => ?_) (fun c_18 => ?_)
            · refine G_iconst (i := 0) hC d_Te_read_295 ?_
              have hP : P = none := hrs275.symm
              exact G_zretX _ hC hQ (by omega) (by omega) d_Te_read_296 (b2i_f (by rw [hP]; rfl)) ⟨_, _, _, _, _, rfl, (by unfold sgnS; rw [if_pos hs]; exact ho275), (fun tm htm => by rw [hP] at htm; cases htm), (((((fr_8.up (T := [t]) (by simp)).tr' (T := [t]) fr_11 (fun _ z => z) (by simp)).tr' (T := [t]) fr_14 (fun _ z => z) (by simp)).tr' (T := [t]) fr_17 (fun _ z => z) (by simp)).tr' (T := [t]) hfr275 (fun _ z => z) (by simp))⟩
            · exact (show False from by omega).elim
          have J242 : ∀ (M242 : Mp) (k1 : Int) (n1 : Int) (w1 : Int32) (f1 : Int) (o1 : Int), (Fr [t] M_15 M242) → (M242 a = some (t, .inr (cTe, [vI k1, vI (atS b.2 start), vI n1, .int w1, vI f1, vI o1]))) → (rs6 b.2 (start + 1) stop true = P) → G E M242 0 0 [(0, .ref a), (1, .ref o), (2, vI start), (3, vI stop), (4, vI (atS b.2 start)), (5, vI 1), (6, vI (start + 1))] [] 242 := by
            intro M242 k1 n1 w1 f1 o1 hfr242 ho242 hrs242
            refine G_iload hC 5 rfl d_Te_read_242 ?_
            refine G_if_ne hC 275 (by decide) (by decide) d_Te_read_244 (fun c_19 => ?_) (fun c_19 => ?_)
            · exact J275 M242 _ _ _ _ _ (hfr242.up (T := [t]) (by simp)) ho242 (or_no hrs242 rfl)
            · exact (show False from by omega).elim
          have J215 : ∀ (M215 : Mp) (k1 : Int) (n1 : Int) (w1 : Int32) (f1 : Int) (o1 : Int), (Fr [t] M_15 M215) → (M215 a = some (t, .inr (cTe, [vI k1, vI (atS b.2 start), vI n1, .int w1, vI f1, vI o1]))) → (rs5 b.2 (start + 1) stop true = P) → G E M215 0 0 [(0, .ref a), (1, .ref o), (2, vI start), (3, vI stop), (4, vI (atS b.2 start)), (5, vI 1), (6, vI (start + 1))] [] 215 := by
            intro M215 k1 n1 w1 f1 o1 hfr215 ho215 hrs215
            refine G_aload_n hC 1 rfl rfl d_Te_read_215 ?_
            refine G_ldcS (tx := "exists:") (i := 6) hC (by decide) d_Te_read_216 ?_
            refine G_iload hC 6 rfl d_Te_read_218 ?_
            refine G_iload_n hC 3 rfl rfl d_Te_read_220 ?_
            have h_20 := h_B_o.fr fr_8 (by simp only [List.mem_cons, List.not_mem_nil, or_false, not_or, not_false_eq_true]; try omega) (by simp only [List.mem_cons, List.not_mem_nil, or_false, not_or, not_false_eq_true]; try omega)
            have h_21 := h_20.fr fr_11 (by simp only [List.mem_cons, List.not_mem_nil, or_false, not_or, not_false_eq_true]; try omega) (by simp only [List.mem_cons, List.not_mem_nil, or_false, not_or, not_false_eq_true]; try omega)
            have h_22 := h_21.fr fr_14 (by simp only [List.mem_cons, List.not_mem_nil, or_false, not_or, not_false_eq_true]; try omega) (by simp only [List.mem_cons, List.not_mem_nil, or_false, not_or, not_false_eq_true]; try omega)
            have h_23 := h_22.fr fr_17 (by simp only [List.mem_cons, List.not_mem_nil, or_false, not_or, not_false_eq_true]; try omega) (by simp only [List.mem_cons, List.not_mem_nil, or_false, not_or, not_false_eq_true]; try omega)
            have h_24 := h_23.fr hfr215 (by simp only [List.mem_cons, List.not_mem_nil, or_false, not_or, not_false_eq_true]; try omega) (by simp only [List.mem_cons, List.not_mem_nil, or_false, not_or, not_false_eq_true]; try omega)
            refine G_pV (rest := []) hC hR (c_By_has h_24 (by decide) (by omega) (by omega)) cv_Te_50 h_24.obj (by decide) (by omega) (by omega) rfl rfl (Nat.le_of_ble_eq_true rfl) d_Te_read_221 ?_
            refine G_if_eq hC 242 (by have := b2i_rng (hasS b.2 (wrd 6) (start + 1) stop); omega) (by decide) d_Te_read_224 (fun c_25 => ?_) (fun c_25 => ?_)
            · have c_25 := b2i_eq0.mp c_25
              exact J242 M215 _ _ _ _ _ (hfr215.up (T := [t]) (by simp)) ho215 (or_no hrs215 (altT_f (Or.inl c_25)))
            · have c_25 := b2i_ne0.mp c_25
              refine G_aload_n hC 0 rfl rfl d_Te_read_227 ?_
              refine G_iconst (i := 5) hC d_Te_read_228 ?_
              refine G_aload_n hC 1 rfl rfl d_Te_read_229 ?_
              refine G_iload hC 6 rfl d_Te_read_230 ?_
              refine G_bipush (j := 7) hC (by decide +kernel) d_Te_read_232 ?_
              refine G_iadd hC d_Te_read_234 ?_
              refine G_iload_n hC 3 rfl rfl d_Te_read_235 ?_
              refine G_xV (rest := []) hC hR (c_Te_readTarget ho215 h_24 (by omega) (by omega) (by omega)) cv_Te_54 ⟨_, _, ho215⟩ (by decide) (by omega) (by omega) rfl rfl (Nat.le_of_ble_eq_true rfl) d_Te_read_236 (fun r_28 M_26 p_27 => ?_)
              obtain ⟨rfl, h_29, fr_30⟩ := p_27
              show G E M_26 (0 + 0) (0 + 0) [(0, .ref a), (1, .ref o), (2, vI start), (3, vI stop), (4, vI (atS b.2 start)), (5, vI 1), (6, vI (start + 1))] [vI (b2i (targS b.2 ((start + 1) + 7) stop))] 239
              refine G_if_ne hC 291 (by have := b2i_rng (targS b.2 ((start + 1) + 7) stop); omega) (by decide) d_Te_read_239 (fun c_31 => ?_) (fun c_31 => ?_)
              · have c_31 := b2i_ne0.mp c_31
                refine G_iconst (i := 1) hC d_Te_read_291 ?_
                refine G_goto hC 296 (by decide) d_Te_read_292 ?_
                have hP := or_yes hrs215 (altT_t c_25 c_31)
                exact G_zretX _ hC hQ (by omega) (by omega) d_Te_read_296 (b2i_t (by rw [hP]; rfl)) ⟨_, _, _, _, _, rfl, (by unfold sgnS; rw [if_pos hs]; exact h_29), (fun tm htm => by rw [hP] at htm; exact (by cases htm; exact ⟨rfl, (fun z => by simp at z), (fun z => by simp at z), (fun d hd => by cases hd; exact ⟨rfl, rfl⟩), (fun z => by cases z)⟩)), ((((((fr_8.up (T := [t]) (by simp)).tr' (T := [t]) fr_11 (fun _ z => z) (by simp)).tr' (T := [t]) fr_14 (fun _ z => z) (by simp)).tr' (T := [t]) fr_17 (fun _ z => z) (by simp)).tr' (T := [t]) hfr215 (fun _ z => z) (by simp)).tr' (T := [t]) fr_30 (fun _ z => z) (by simp))⟩
              · have c_31 := b2i_eq0.mp c_31
                exact J242 M_26 _ _ _ _ _ ((hfr215.up (T := [t]) (by simp)).tr' (T := [t]) fr_30 (fun _ z => z) (by simp)) h_29 (or_no hrs215 (altT_f (Or.inr c_31)))
          have J190 : ∀ (M190 : Mp) (k1 : Int) (n1 : Int) (w1 : Int32) (f1 : Int) (o1 : Int), (Fr [t] M_15 M190) → (M190 a = some (t, .inr (cTe, [vI k1, vI (atS b.2 start), vI n1, .int w1, vI f1, vI o1]))) → (rs4 b.2 (start + 1) stop true = P) → ((n1 = 32) ∨ atS b.2 (start + 1) = 97 ∨ atS b.2 (start + 1) = 109) → G E M190 0 0 [(0, .ref a), (1, .ref o), (2, vI start), (3, vI stop), (4, vI (atS b.2 start)), (5, vI 1), (6, vI (start + 1))] [] 190 := by
            intro M190 k1 n1 w1 f1 o1 hfr190 ho190 hrs190 hcn190
            refine G_aload_n hC 1 rfl rfl d_Te_read_190 ?_
            refine G_ldcS (tx := "ip4:") (i := 5) hC (by decide) d_Te_read_191 ?_
            refine G_iload hC 6 rfl d_Te_read_193 ?_
            refine G_iload_n hC 3 rfl rfl d_Te_read_195 ?_
            have h_32 := h_B_o.fr fr_8 (by simp only [List.mem_cons, List.not_mem_nil, or_false, not_or, not_false_eq_true]; try omega) (by simp only [List.mem_cons, List.not_mem_nil, or_false, not_or, not_false_eq_true]; try omega)
            have h_33 := h_32.fr fr_11 (by simp only [List.mem_cons, List.not_mem_nil, or_false, not_or, not_false_eq_true]; try omega) (by simp only [List.mem_cons, List.not_mem_nil, or_false, not_or, not_false_eq_true]; try omega)
            have h_34 := h_33.fr fr_14 (by simp only [List.mem_cons, List.not_mem_nil, or_false, not_or, not_false_eq_true]; try omega) (by simp only [List.mem_cons, List.not_mem_nil, or_false, not_or, not_false_eq_true]; try omega)
            have h_35 := h_34.fr fr_17 (by simp only [List.mem_cons, List.not_mem_nil, or_false, not_or, not_false_eq_true]; try omega) (by simp only [List.mem_cons, List.not_mem_nil, or_false, not_or, not_false_eq_true]; try omega)
            have h_36 := h_35.fr hfr190 (by simp only [List.mem_cons, List.not_mem_nil, or_false, not_or, not_false_eq_true]; try omega) (by simp only [List.mem_cons, List.not_mem_nil, or_false, not_or, not_false_eq_true]; try omega)
            refine G_pV (rest := []) hC hR (c_By_has h_36 (by decide) (by omega) (by omega)) cv_Te_50 h_36.obj (by decide) (by omega) (by omega) rfl rfl (Nat.le_of_ble_eq_true rfl) d_Te_read_196 ?_
            refine G_if_eq hC 215 (by have := b2i_rng (hasS b.2 (wrd 5) (start + 1) stop); omega) (by decide) d_Te_read_199 (fun c_37 => ?_) (fun c_37 => ?_)
            · have c_37 := b2i_eq0.mp c_37
              exact J215 M190 _ _ _ _ _ (hfr190.up (T := [t]) (by simp)) ho190 (or_no hrs190 (altI_f (Or.inl c_37)))
            · have c_37 := b2i_ne0.mp c_37
              refine G_aload_n hC 0 rfl rfl d_Te_read_202 ?_
              refine G_aload_n hC 1 rfl rfl d_Te_read_203 ?_
              refine G_iload hC 6 rfl d_Te_read_204 ?_
              refine G_iconst (i := 4) hC d_Te_read_206 ?_
              refine G_iadd hC d_Te_read_207 ?_
              refine G_iload_n hC 3 rfl rfl d_Te_read_208 ?_
              have hz209 := has_first (c := 105) c_37 ⟨by decide, by decide⟩
              refine G_xV (rest := []) hC hR (c_Te_readNetwork ho190 h_36 (by omega) (by omega) (by omega) (by omega) rfl) cv_Te_67 ⟨_, _, ho190⟩ (by decide) (by omega) (by omega) rfl rfl (Nat.le_of_ble_eq_true rfl) d_Te_read_209 (fun r_40 M_38 p_39 => ?_)
              obtain ⟨n1_41, w1_42, rfl, h_43, h_44, fr_45⟩ := p_39
              show G E M_38 (0 + 0) (0 + 0) [(0, .ref a), (1, .ref o), (2, vI start), (3, vI stop), (4, vI (atS b.2 start)), (5, vI 1), (6, vI (start + 1))] [vI (b2i (ip4S b.2 ((start + 1) + 4) stop).isSome)] 212
              refine G_if_ne hC 291 (by have := b2i_rng ((ip4S b.2 ((start + 1) + 4) stop).isSome); omega) (by decide) d_Te_read_212 (fun c_46 => ?_) (fun c_46 => ?_)
              · have c_46 := b2i_ne0.mp c_46
                refine G_iconst (i := 1) hC d_Te_read_291 ?_
                refine G_goto hC 296 (by decide) d_Te_read_292 ?_
                obtain ⟨v1, hv1⟩ := isS_t c_46
                have hP := or_yes hrs190 (altI_t c_37 hv1)
                exact G_zretX _ hC hQ (by omega) (by omega) d_Te_read_296 (b2i_t (by rw [hP]; rfl)) ⟨_, _, _, _, _, rfl, (by unfold sgnS; rw [if_pos hs]; exact h_43), (fun tm htm => by rw [hP] at htm; exact (by cases htm; exact h_44 _ hv1)), ((((((fr_8.up (T := [t]) (by simp)).tr' (T := [t]) fr_11 (fun _ z => z) (by simp)).tr' (T := [t]) fr_14 (fun _ z => z) (by simp)).tr' (T := [t]) fr_17 (fun _ z => z) (by simp)).tr' (T := [t]) hfr190 (fun _ z => z) (by simp)).tr' (T := [t]) fr_45 (fun _ z => z) (by simp))⟩
              · have c_46 := b2i_eq0.mp c_46
                exact J215 M_38 _ _ _ _ _ ((hfr190.up (T := [t]) (by simp)).tr' (T := [t]) fr_45 (fun _ z => z) (by simp)) h_43 (or_no hrs190 (altI_f (Or.inr (isS_f c_46))))
          have J164 : ∀ (M164 : Mp) (k1 : Int) (n1 : Int) (w1 : Int32) (f1 : Int) (o1 : Int), (Fr [t] M_15 M164) → (M164 a = some (t, .inr (cTe, [vI k1, vI (atS b.2 start), vI n1, .int w1, vI f1, vI o1]))) → (rs3 b.2 (start + 1) stop true = P) → ((f1 = o1) ∨ atS b.2 (start + 1) = 105 ∨ atS b.2 (start + 1) = 97) → ((n1 = 32) ∨ atS b.2 (start + 1) = 97) → G E M164 0 0 [(0, .ref a), (1, .ref o), (2, vI start), (3, vI stop), (4, vI (atS b.2 start)), (5, vI 1), (6, vI (start + 1))] [] 164 := by
            intro M164 k1 n1 w1 f1 o1 hfr164 ho164 hrs164 hcf164 hcn164
            refine G_aload_n hC 1 rfl rfl d_Te_read_164 ?_
            refine G_ldcS (tx := "mx") (i := 4) hC (by decide) d_Te_read_165 ?_
            refine G_iload hC 6 rfl d_Te_read_167 ?_
            refine G_iload_n hC 3 rfl rfl d_Te_read_169 ?_
            have h_47 := h_B_o.fr fr_8 (by simp only [List.mem_cons, List.not_mem_nil, or_false, not_or, not_false_eq_true]; try omega) (by simp only [List.mem_cons, List.not_mem_nil, or_false, not_or, not_false_eq_true]; try omega)
            have h_48 := h_47.fr fr_11 (by simp only [List.mem_cons, List.not_mem_nil, or_false, not_or, not_false_eq_true]; try omega) (by simp only [List.mem_cons, List.not_mem_nil, or_false, not_or, not_false_eq_true]; try omega)
            have h_49 := h_48.fr fr_14 (by simp only [List.mem_cons, List.not_mem_nil, or_false, not_or, not_false_eq_true]; try omega) (by simp only [List.mem_cons, List.not_mem_nil, or_false, not_or, not_false_eq_true]; try omega)
            have h_50 := h_49.fr fr_17 (by simp only [List.mem_cons, List.not_mem_nil, or_false, not_or, not_false_eq_true]; try omega) (by simp only [List.mem_cons, List.not_mem_nil, or_false, not_or, not_false_eq_true]; try omega)
            have h_51 := h_50.fr hfr164 (by simp only [List.mem_cons, List.not_mem_nil, or_false, not_or, not_false_eq_true]; try omega) (by simp only [List.mem_cons, List.not_mem_nil, or_false, not_or, not_false_eq_true]; try omega)
            refine G_pV (rest := []) hC hR (c_By_has h_51 (by decide) (by omega) (by omega)) cv_Te_50 h_51.obj (by decide) (by omega) (by omega) rfl rfl (Nat.le_of_ble_eq_true rfl) d_Te_read_170 ?_
            refine G_if_eq hC 190 (by have := b2i_rng (hasS b.2 (wrd 4) (start + 1) stop); omega) (by decide) d_Te_read_173 (fun c_52 => ?_) (fun c_52 => ?_)
            · have c_52 := b2i_eq0.mp c_52
              exact J190 M164 _ _ _ _ _ (hfr164.up (T := [t]) (by simp)) ho164 (or_no hrs164 (altH_f (Or.inl c_52))) (by omega)
            · have c_52 := b2i_ne0.mp c_52
              refine G_aload_n hC 0 rfl rfl d_Te_read_176 ?_
              refine G_iconst (i := 3) hC d_Te_read_177 ?_
              refine G_aload_n hC 1 rfl rfl d_Te_read_178 ?_
              refine G_iload hC 6 rfl d_Te_read_179 ?_
              refine G_iconst (i := 2) hC d_Te_read_181 ?_
              refine G_iadd hC d_Te_read_182 ?_
              refine G_iload_n hC 3 rfl rfl d_Te_read_183 ?_
              have hz184 := has_first (c := 109) c_52 ⟨by decide, by decide⟩
              refine G_xV (rest := []) hC hR (c_Te_readHost ho164 h_51 (by omega) (by omega) (by omega) (by omega) (by omega) (by omega) rfl) cv_Te_60 ⟨_, _, ho164⟩ (by decide) (by omega) (by omega) rfl rfl (Nat.le_of_ble_eq_true rfl) d_Te_read_184 (fun r_55 M_53 p_54 => ?_)
              obtain ⟨n1_56, f1_57, o1_58, rfl, h_59, h_60, fr_61⟩ := p_54
              show G E M_53 (0 + 0) (0 + 0) [(0, .ref a), (1, .ref o), (2, vI start), (3, vI stop), (4, vI (atS b.2 start)), (5, vI 1), (6, vI (start + 1))] [vI (b2i (hostS b.2 3 ((start + 1) + 2) stop).isSome)] 187
              refine G_if_ne hC 291 (by have := b2i_rng ((hostS b.2 3 ((start + 1) + 2) stop).isSome); omega) (by decide) d_Te_read_187 (fun c_62 => ?_) (fun c_62 => ?_)
              · have c_62 := b2i_ne0.mp c_62
                refine G_iconst (i := 1) hC d_Te_read_291 ?_
                refine G_goto hC 296 (by decide) d_Te_read_292 ?_
                obtain ⟨v1, hv1⟩ := isS_t c_62
                have hP := or_yes hrs164 (altH_t c_52 hv1)
                exact G_zretX _ hC hQ (by omega) (by omega) d_Te_read_296 (b2i_t (by rw [hP]; rfl)) ⟨_, _, _, _, _, rfl, (by unfold sgnS; rw [if_pos hs]; exact h_59), (fun tm htm => by rw [hP] at htm; exact (by cases htm; exact h_60 _ hv1)), ((((((fr_8.up (T := [t]) (by simp)).tr' (T := [t]) fr_11 (fun _ z => z) (by simp)).tr' (T := [t]) fr_14 (fun _ z => z) (by simp)).tr' (T := [t]) fr_17 (fun _ z => z) (by simp)).tr' (T := [t]) hfr164 (fun _ z => z) (by simp)).tr' (T := [t]) fr_61 (fun _ z => z) (by simp))⟩
              · have c_62 := b2i_eq0.mp c_62
                exact J190 M_53 _ _ _ _ _ ((hfr164.up (T := [t]) (by simp)).tr' (T := [t]) fr_61 (fun _ z => z) (by simp)) h_59 (or_no hrs164 (altH_f (Or.inr (isS_f c_62)))) (by first | omega | (have z9 := has_first (c := 109) c_52 ⟨by decide, by decide⟩; omega))
          have J138 : ∀ (M138 : Mp) (k1 : Int) (n1 : Int) (w1 : Int32) (f1 : Int) (o1 : Int), (Fr [t] M_15 M138) → (M138 a = some (t, .inr (cTe, [vI k1, vI (atS b.2 start), vI n1, .int w1, vI f1, vI o1]))) → (rs2 b.2 (start + 1) stop true = P) → ((f1 = o1) ∨ atS b.2 (start + 1) = 105) → ((n1 = 32)) → G E M138 0 0 [(0, .ref a), (1, .ref o), (2, vI start), (3, vI stop), (4, vI (atS b.2 start)), (5, vI 1), (6, vI (start + 1))] [] 138 := by
            intro M138 k1 n1 w1 f1 o1 hfr138 ho138 hrs138 hcf138 hcn138
            refine G_aload_n hC 1 rfl rfl d_Te_read_138 ?_
            refine G_ldcS (tx := "a") (i := 3) hC (by decide) d_Te_read_139 ?_
            refine G_iload hC 6 rfl d_Te_read_141 ?_
            refine G_iload_n hC 3 rfl rfl d_Te_read_143 ?_
            have h_63 := h_B_o.fr fr_8 (by simp only [List.mem_cons, List.not_mem_nil, or_false, not_or, not_false_eq_true]; try omega) (by simp only [List.mem_cons, List.not_mem_nil, or_false, not_or, not_false_eq_true]; try omega)
            have h_64 := h_63.fr fr_11 (by simp only [List.mem_cons, List.not_mem_nil, or_false, not_or, not_false_eq_true]; try omega) (by simp only [List.mem_cons, List.not_mem_nil, or_false, not_or, not_false_eq_true]; try omega)
            have h_65 := h_64.fr fr_14 (by simp only [List.mem_cons, List.not_mem_nil, or_false, not_or, not_false_eq_true]; try omega) (by simp only [List.mem_cons, List.not_mem_nil, or_false, not_or, not_false_eq_true]; try omega)
            have h_66 := h_65.fr fr_17 (by simp only [List.mem_cons, List.not_mem_nil, or_false, not_or, not_false_eq_true]; try omega) (by simp only [List.mem_cons, List.not_mem_nil, or_false, not_or, not_false_eq_true]; try omega)
            have h_67 := h_66.fr hfr138 (by simp only [List.mem_cons, List.not_mem_nil, or_false, not_or, not_false_eq_true]; try omega) (by simp only [List.mem_cons, List.not_mem_nil, or_false, not_or, not_false_eq_true]; try omega)
            refine G_pV (rest := []) hC hR (c_By_has h_67 (by decide) (by omega) (by omega)) cv_Te_50 h_67.obj (by decide) (by omega) (by omega) rfl rfl (Nat.le_of_ble_eq_true rfl) d_Te_read_144 ?_
            refine G_if_eq hC 164 (by have := b2i_rng (hasS b.2 (wrd 3) (start + 1) stop); omega) (by decide) d_Te_read_147 (fun c_68 => ?_) (fun c_68 => ?_)
            · have c_68 := b2i_eq0.mp c_68
              exact J164 M138 _ _ _ _ _ (hfr138.up (T := [t]) (by simp)) ho138 (or_no hrs138 (altH_f (Or.inl c_68))) (by omega) (by omega)
            · have c_68 := b2i_ne0.mp c_68
              refine G_aload_n hC 0 rfl rfl d_Te_read_150 ?_
              refine G_iconst (i := 2) hC d_Te_read_151 ?_
              refine G_aload_n hC 1 rfl rfl d_Te_read_152 ?_
              refine G_iload hC 6 rfl d_Te_read_153 ?_
              refine G_iconst (i := 1) hC d_Te_read_155 ?_
              refine G_iadd hC d_Te_read_156 ?_
              refine G_iload_n hC 3 rfl rfl d_Te_read_157 ?_
              have hz158 := has_first (c := 97) c_68 ⟨by decide, by decide⟩
              refine G_xV (rest := []) hC hR (c_Te_readHost ho138 h_67 (by omega) (by omega) (by omega) (by omega) (by omega) (by omega) rfl) cv_Te_60 ⟨_, _, ho138⟩ (by decide) (by omega) (by omega) rfl rfl (Nat.le_of_ble_eq_true rfl) d_Te_read_158 (fun r_71 M_69 p_70 => ?_)
              obtain ⟨n1_72, f1_73, o1_74, rfl, h_75, h_76, fr_77⟩ := p_70
              show G E M_69 (0 + 0) (0 + 0) [(0, .ref a), (1, .ref o), (2, vI start), (3, vI stop), (4, vI (atS b.2 start)), (5, vI 1), (6, vI (start + 1))] [vI (b2i (hostS b.2 2 ((start + 1) + 1) stop).isSome)] 161
              refine G_if_ne hC 291 (by have := b2i_rng ((hostS b.2 2 ((start + 1) + 1) stop).isSome); omega) (by decide) d_Te_read_161 (fun c_78 => ?_) (fun c_78 => ?_)
              · have c_78 := b2i_ne0.mp c_78
                refine G_iconst (i := 1) hC d_Te_read_291 ?_
                refine G_goto hC 296 (by decide) d_Te_read_292 ?_
                obtain ⟨v1, hv1⟩ := isS_t c_78
                have hP := or_yes hrs138 (altH_t c_68 hv1)
                exact G_zretX _ hC hQ (by omega) (by omega) d_Te_read_296 (b2i_t (by rw [hP]; rfl)) ⟨_, _, _, _, _, rfl, (by unfold sgnS; rw [if_pos hs]; exact h_75), (fun tm htm => by rw [hP] at htm; exact (by cases htm; exact h_76 _ hv1)), ((((((fr_8.up (T := [t]) (by simp)).tr' (T := [t]) fr_11 (fun _ z => z) (by simp)).tr' (T := [t]) fr_14 (fun _ z => z) (by simp)).tr' (T := [t]) fr_17 (fun _ z => z) (by simp)).tr' (T := [t]) hfr138 (fun _ z => z) (by simp)).tr' (T := [t]) fr_77 (fun _ z => z) (by simp))⟩
              · have c_78 := b2i_eq0.mp c_78
                exact J164 M_69 _ _ _ _ _ ((hfr138.up (T := [t]) (by simp)).tr' (T := [t]) fr_77 (fun _ z => z) (by simp)) h_75 (or_no hrs138 (altH_f (Or.inr (isS_f c_78)))) (by first | omega | (have z9 := has_first (c := 97) c_68 ⟨by decide, by decide⟩; omega)) (by first | omega | (have z9 := has_first (c := 97) c_68 ⟨by decide, by decide⟩; omega))
          refine G_aload_n hC 1 rfl rfl d_Te_read_100 ?_
          refine G_aload_n hC 2 rfl rfl d_Te_read_101 ?_
          refine G_iload hC 0 rfl d_Te_read_102 ?_
          refine G_iload_n hC 4 rfl rfl d_Te_read_104 ?_
          have h_79 := h_B_o.fr fr_8 (by simp only [List.mem_cons, List.not_mem_nil, or_false, not_or, not_false_eq_true]; try omega) (by simp only [List.mem_cons, List.not_mem_nil, or_false, not_or, not_false_eq_true]; try omega)
          have h_80 := h_79.fr fr_11 (by simp only [List.mem_cons, List.not_mem_nil, or_false, not_or, not_false_eq_true]; try omega) (by simp only [List.mem_cons, List.not_mem_nil, or_false, not_or, not_false_eq_true]; try omega)
          have h_81 := h_80.fr fr_14 (by simp only [List.mem_cons, List.not_mem_nil, or_false, not_or, not_false_eq_true]; try omega) (by simp only [List.mem_cons, List.not_mem_nil, or_false, not_or, not_false_eq_true]; try omega)
          have h_82 := h_81.fr fr_17 (by simp only [List.mem_cons, List.not_mem_nil, or_false, not_or, not_false_eq_true]; try omega) (by simp only [List.mem_cons, List.not_mem_nil, or_false, not_or, not_false_eq_true]; try omega)
          refine G_xV (rest := []) hC hR (c_Te_readAll h_16 h_82 (by omega) (by omega) (by omega)) cv_Te_44 ⟨_, _, h_16⟩ (by decide) (by omega) (by omega) rfl rfl (Nat.le_of_ble_eq_true rfl) d_Te_read_105 (fun r_85 M_83 p_84 => ?_)
          obtain ⟨rfl, h_86, fr_87⟩ := p_84
          show G E M_83 (0 + 0) (0 + 0) [(6, vI (start + 1)), (0, .ref a), (1, .ref o), (2, vI start), (3, vI stop), (4, vI (atS b.2 start)), (5, vI 1)] [vI (b2i (decide (stop - (start + 1) = 3 ∧ hasS b.2 (wrd 1) (start + 1) stop = true)))] 108
          refine G_if_ne hC 291 (by have := b2i_rng (decide (stop - (start + 1) = 3 ∧ hasS b.2 (wrd 1) (start + 1) stop = true)); omega) (by decide) d_Te_read_108 (fun c_88 => ?_) (fun c_88 => ?_)
          · have c_88 := b2i_ne0.mp c_88
            have c_88 := of_decide_eq_true c_88
            refine G_iconst (i := 1) hC d_Te_read_291 ?_
            refine G_goto hC 296 (by decide) d_Te_read_292 ?_
            have hP := or_yes hr (show altAll b.2 (start + 1) stop = some (0, 32, 0, none) from if_pos c_88)
            exact G_zretX _ hC hQ (by omega) (by omega) d_Te_read_296 (b2i_t (by rw [hP]; rfl)) ⟨_, _, _, _, _, rfl, (by unfold sgnS; rw [if_pos hs]; exact h_86), (fun tm htm => by rw [hP] at htm; exact (by cases htm; exact ⟨rfl, (fun z => by simp at z), (fun z => by simp at z), (fun d hd => by cases hd), (fun _ z => by simp at z)⟩)), (((((fr_8.up (T := [t]) (by simp)).tr' (T := [t]) fr_11 (fun _ z => z) (by simp)).tr' (T := [t]) fr_14 (fun _ z => z) (by simp)).tr' (T := [t]) fr_17 (fun _ z => z) (by simp)).tr' (T := [t]) fr_87 (fun _ z => z) (by simp))⟩
          · have c_88 := b2i_eq0.mp c_88
            have c_88 := of_decide_eq_false c_88
            have hrs111 := or_no hr (show altAll b.2 (start + 1) stop = none from if_neg c_88)
            refine G_aload_n hC 2 rfl rfl d_Te_read_111 ?_
            refine G_ldcS (tx := "include:") (i := 2) hC (by decide) d_Te_read_112 ?_
            refine G_iload hC 0 rfl d_Te_read_114 ?_
            refine G_iload_n hC 4 rfl rfl d_Te_read_116 ?_
            have h_89 := h_82.fr fr_87 (by simp only [List.mem_cons, List.not_mem_nil, or_false, not_or, not_false_eq_true]; try omega) (by simp only [List.mem_cons, List.not_mem_nil, or_false, not_or, not_false_eq_true]; try omega)
            refine G_pV (rest := []) hC hR (c_By_has h_89 (by decide) (by omega) (by omega)) cv_Te_50 h_89.obj (by decide) (by omega) (by omega) rfl rfl (Nat.le_of_ble_eq_true rfl) d_Te_read_117 ?_
            refine G_if_eq hC 138 (by have := b2i_rng (hasS b.2 (wrd 2) (start + 1) stop); omega) (by decide) d_Te_read_120 (fun c_90 => ?_) (fun c_90 => ?_)
            · have c_90 := b2i_eq0.mp c_90
              refine G_lv [1, 2, 3, 4, 5, 6, 0] rfl ?_
              exact J138 M_83 _ _ _ _ _ (fr_87.up (T := [t]) (by simp)) h_86 (or_no hrs111 (altT_f (Or.inl c_90))) (by first | omega | (have z9 := has_first (c := 105) c_88 ⟨by decide, by decide⟩; omega)) (by first | omega | (have z9 := has_first (c := 105) c_88 ⟨by decide, by decide⟩; omega))
            · have c_90 := b2i_ne0.mp c_90
              refine G_aload_n hC 1 rfl rfl d_Te_read_123 ?_
              refine G_iconst (i := 1) hC d_Te_read_124 ?_
              refine G_aload_n hC 2 rfl rfl d_Te_read_125 ?_
              refine G_iload hC 0 rfl d_Te_read_126 ?_
              refine G_bipush (j := 8) hC (by decide +kernel) d_Te_read_128 ?_
              refine G_iadd hC d_Te_read_130 ?_
              refine G_iload_n hC 4 rfl rfl d_Te_read_131 ?_
              refine G_xV (rest := []) hC hR (c_Te_readTarget h_86 h_89 (by omega) (by omega) (by omega)) cv_Te_54 ⟨_, _, h_86⟩ (by decide) (by omega) (by omega) rfl rfl (Nat.le_of_ble_eq_true rfl) d_Te_read_132 (fun r_93 M_91 p_92 => ?_)
              obtain ⟨rfl, h_94, fr_95⟩ := p_92
              show G E M_91 (0 + 0 + 0) (0 + 0 + 0) [(6, vI (start + 1)), (0, .ref a), (1, .ref o), (2, vI start), (3, vI stop), (4, vI (atS b.2 start)), (5, vI 1)] [vI (b2i (targS b.2 ((start + 1) + 8) stop))] 135
              refine G_if_ne hC 291 (by have := b2i_rng (targS b.2 ((start + 1) + 8) stop); omega) (by decide) d_Te_read_135 (fun c_96 => ?_) (fun c_96 => ?_)
              · have c_96 := b2i_ne0.mp c_96
                refine G_iconst (i := 1) hC d_Te_read_291 ?_
                refine G_goto hC 296 (by decide) d_Te_read_292 ?_
                have hP := or_yes hrs111 (altT_t c_90 c_96)
                exact G_zretX _ hC hQ (by omega) (by omega) d_Te_read_296 (b2i_t (by rw [hP]; rfl)) ⟨_, _, _, _, _, rfl, (by unfold sgnS; rw [if_pos hs]; exact h_94), (fun tm htm => by rw [hP] at htm; exact (by cases htm; exact ⟨rfl, (fun z => by simp at z), (fun z => by simp at z), (fun d hd => by cases hd; exact ⟨rfl, rfl⟩), (fun z => by cases z)⟩)), ((((((fr_8.up (T := [t]) (by simp)).tr' (T := [t]) fr_11 (fun _ z => z) (by simp)).tr' (T := [t]) fr_14 (fun _ z => z) (by simp)).tr' (T := [t]) fr_17 (fun _ z => z) (by simp)).tr' (T := [t]) fr_87 (fun _ z => z) (by simp)).tr' (T := [t]) fr_95 (fun _ z => z) (by simp))⟩
              · have c_96 := b2i_eq0.mp c_96
                refine G_lv [1, 2, 3, 4, 5, 6, 0] rfl ?_
                exact J138 M_91 _ _ _ _ _ ((fr_87.up (T := [t]) (by simp)).tr' (T := [t]) fr_95 (fun _ z => z) (by simp)) h_94 (or_no hrs111 (altT_f (Or.inr c_96))) (by first | omega | (have z9 := has_first (c := 105) c_90 ⟨by decide, by decide⟩; omega)) (by first | omega | (have z9 := has_first (c := 105) c_90 ⟨by decide, by decide⟩; omega))
    · obtain rfl : sgv = 0 := by rw [hsg, decide_eq_false hs]; rfl
      rw [if_neg hs, decide_eq_false hs] at hr
      refine G_iload hC 5 rfl d_Te_read_54 ?_
      refine G_if_eq hC 65 (by decide) (by decide) d_Te_read_56 (fun c_97 => ?_) (fun c_97 => ?_)
      · refine G_iload_n hC 2 rfl rfl d_Te_read_65 ?_
        refine G_istore (lv' := [(6, vI start), (0, .ref a), (1, .ref o), (2, vI start), (3, vI stop), (4, vI (atS b.2 start)), (5, vI 0)]) hC (by rw [hN]; decide) rfl d_Te_read_66 ?_
        refine G_aload_n hC 1 rfl rfl d_Te_read_68 ?_
        refine G_iload hC 6 rfl d_Te_read_69 ?_
        refine G_if_eq hC 79 (by decide) (by decide) d_Te_read_71 (fun c_98 => ?_) (fun c_98 => ?_)
        · refine G_bipush (j := 43) hC (by decide +kernel) d_Te_read_79 ?_
          refine G_putX (fs' := [vI k0, vI 43, vI n0, .int w0, vI f0, vI o0]) hC fl_Te_27 ft_Te fw_Te_1 h_obj_a rfl rfl (Nat.le_of_ble_eq_true rfl) rfl d_Te_read_81 (fun M_99 h_100 fr_101 => ?_)
          refine G_aload_n hC 1 rfl rfl d_Te_read_84 ?_
          refine G_bipush (j := 32) hC (by decide +kernel) d_Te_read_85 ?_
          refine G_putX (fs' := [vI k0, vI 43, vI 32, .int w0, vI f0, vI o0]) hC fl_Te_15 ft_Te fw_Te_2 h_100 rfl rfl (Nat.le_of_ble_eq_true rfl) rfl d_Te_read_87 (fun M_102 h_103 fr_104 => ?_)
          refine G_aload_n hC 1 rfl rfl d_Te_read_90 ?_
          refine G_iload_n hC 4 rfl rfl d_Te_read_91 ?_
          refine G_putX (fs' := [vI k0, vI 43, vI 32, .int w0, vI stop, vI o0]) hC fl_Te_21 ft_Te fw_Te_4 h_103 rfl rfl (Nat.le_of_ble_eq_true rfl) rfl d_Te_read_92 (fun M_105 h_106 fr_107 => ?_)
          refine G_aload_n hC 1 rfl rfl d_Te_read_95 ?_
          refine G_iload_n hC 4 rfl rfl d_Te_read_96 ?_
          refine G_putX (fs' := [vI k0, vI 43, vI 32, .int w0, vI stop, vI stop]) hC fl_Te_24 ft_Te fw_Te_5 h_106 rfl rfl (Nat.le_of_ble_eq_true rfl) rfl d_Te_read_97 (fun M_108 h_109 fr_110 => ?_)
          have J275 : ∀ (M275 : Mp) (k1 : Int) (n1 : Int) (w1 : Int32) (f1 : Int) (o1 : Int), (Fr [t] M_108 M275) → (M275 a = some (t, .inr (cTe, [vI k1, vI 43, vI n1, .int w1, vI f1, vI o1]))) → (rs7 b.2 (start) stop false = P) → G E M275 0 0 [(0, .ref a), (1, .ref o), (2, vI start), (3, vI stop), (4, vI (atS b.2 start)), (5, vI 0), (6, vI start)] [] 275 := by
            intro M275 k1 n1 w1 f1 o1 hfr275 ho275 hrs275
            refine G_iload hC 5 rfl d_Te_read_275 ?_
            refine G_if_ne hC 295 (by decide) (by decide) d_Te_read_277 (fun c_111 => ?_) (fun c_111 => ?_)
            · exact (show False from by omega).elim
            · refine G_aload_n hC 0 rfl rfl d_Te_read_280 ?_
              refine G_aload_n hC 1 rfl rfl d_Te_read_281 ?_
              refine G_iload hC 6 rfl d_Te_read_282 ?_
              refine G_iload_n hC 3 rfl rfl d_Te_read_284 ?_
              have h_112 := h_B_o.fr fr_101 (by simp only [List.mem_cons, List.not_mem_nil, or_false, not_or, not_false_eq_true]; try omega) (by simp only [List.mem_cons, List.not_mem_nil, or_false, not_or, not_false_eq_true]; try omega)
              have h_113 := h_112.fr fr_104 (by simp only [List.mem_cons, List.not_mem_nil, or_false, not_or, not_false_eq_true]; try omega) (by simp only [List.mem_cons, List.not_mem_nil, or_false, not_or, not_false_eq_true]; try omega)
              have h_114 := h_113.fr fr_107 (by simp only [List.mem_cons, List.not_mem_nil, or_false, not_or, not_false_eq_true]; try omega) (by simp only [List.mem_cons, List.not_mem_nil, or_false, not_or, not_false_eq_true]; try omega)
              have h_115 := h_114.fr fr_110 (by simp only [List.mem_cons, List.not_mem_nil, or_false, not_or, not_false_eq_true]; try omega) (by simp only [List.mem_cons, List.not_mem_nil, or_false, not_or, not_false_eq_true]; try omega)
              have h_116 := h_115.fr hfr275 (by simp only [List.mem_cons, List.not_mem_nil, or_false, not_or, not_false_eq_true]; try omega) (by simp only [List.mem_cons, List.not_mem_nil, or_false, not_or, not_false_eq_true]; try omega)
              refine G_xV (rest := []) hC hR (c_Te_readOther ho275 h_116 (by omega) (by omega) (by omega)) cv_Te_74 ⟨_, _, ho275⟩ (by decide) (by omega) (by omega) rfl rfl (Nat.le_of_ble_eq_true rfl) d_Te_read_285 (fun r_119 M_117 p_118 => ?_)
              obtain ⟨rfl, h_120, fr_121⟩ := p_118
              show G E M_117 (0 + 0) (0 + 0) [(0, .ref a), (1, .ref o), (2, vI start), (3, vI stop), (4, vI (atS b.2 start)), (5, vI 0), (6, vI start)] [vI (b2i (altO b.2 start stop).isSome)] 288
              refine G_if_eq hC 295 (by have := b2i_rng ((altO b.2 start stop).isSome); omega) (by decide) d_Te_read_288 (fun c_122 => ?_) (fun c_122 => ?_)
              · have c_122 := b2i_eq0.mp c_122
                refine G_iconst (i := 0) hC d_Te_read_295 ?_
                have hP : P = none := (show altO b.2 (start) stop = P from hrs275).symm.trans (isS_f c_122)
                exact G_zretX _ hC hQ (by omega) (by omega) d_Te_read_296 (b2i_f (by rw [hP]; rfl)) ⟨_, _, _, _, _, rfl, (by unfold sgnS; rw [if_neg hs]; exact h_120), (fun tm htm => by rw [hP] at htm; cases htm), ((((((fr_101.up (T := [t]) (by simp)).tr' (T := [t]) fr_104 (fun _ z => z) (by simp)).tr' (T := [t]) fr_107 (fun _ z => z) (by simp)).tr' (T := [t]) fr_110 (fun _ z => z) (by simp)).tr' (T := [t]) hfr275 (fun _ z => z) (by simp)).tr' (T := [t]) fr_121 (fun _ z => z) (by simp))⟩
              · have c_122 := b2i_ne0.mp c_122
                refine G_iconst (i := 1) hC d_Te_read_291 ?_
                refine G_goto hC 296 (by decide) d_Te_read_292 ?_
                obtain ⟨v1, hv1⟩ := isS_t c_122
                have hP := (show altO b.2 (start) stop = P from hrs275).symm.trans hv1
                exact G_zretX _ hC hQ (by omega) (by omega) d_Te_read_296 (b2i_t (by rw [hP]; rfl)) ⟨_, _, _, _, _, rfl, (by unfold sgnS; rw [if_neg hs]; exact h_120), (fun tm htm => by rw [hP] at htm; exact (by have e9 := altO_is hv1; subst e9; cases htm; exact ⟨rfl, (fun z => by simp at z), (fun z => by simp at z), (fun d hd => by cases hd), (fun _ z => by simp at z)⟩)), ((((((fr_101.up (T := [t]) (by simp)).tr' (T := [t]) fr_104 (fun _ z => z) (by simp)).tr' (T := [t]) fr_107 (fun _ z => z) (by simp)).tr' (T := [t]) fr_110 (fun _ z => z) (by simp)).tr' (T := [t]) hfr275 (fun _ z => z) (by simp)).tr' (T := [t]) fr_121 (fun _ z => z) (by simp))⟩
          have J242 : ∀ (M242 : Mp) (k1 : Int) (n1 : Int) (w1 : Int32) (f1 : Int) (o1 : Int), (Fr [t] M_108 M242) → (M242 a = some (t, .inr (cTe, [vI k1, vI 43, vI n1, .int w1, vI f1, vI o1]))) → (rs6 b.2 (start) stop false = P) → G E M242 0 0 [(0, .ref a), (1, .ref o), (2, vI start), (3, vI stop), (4, vI (atS b.2 start)), (5, vI 0), (6, vI start)] [] 242 := by
            intro M242 k1 n1 w1 f1 o1 hfr242 ho242 hrs242
            refine G_iload hC 5 rfl d_Te_read_242 ?_
            refine G_if_ne hC 275 (by decide) (by decide) d_Te_read_244 (fun c_123 => ?_) (fun c_123 => ?_)
            · exact (show False from by omega).elim
            · refine G_aload_n hC 1 rfl rfl d_Te_read_247 ?_
              refine G_ldcS (tx := "redirect=") (i := 7) hC (by decide) d_Te_read_248 ?_
              refine G_iload hC 6 rfl d_Te_read_250 ?_
              refine G_iload_n hC 3 rfl rfl d_Te_read_252 ?_
              have h_124 := h_B_o.fr fr_101 (by simp only [List.mem_cons, List.not_mem_nil, or_false, not_or, not_false_eq_true]; try omega) (by simp only [List.mem_cons, List.not_mem_nil, or_false, not_or, not_false_eq_true]; try omega)
              have h_125 := h_124.fr fr_104 (by simp only [List.mem_cons, List.not_mem_nil, or_false, not_or, not_false_eq_true]; try omega) (by simp only [List.mem_cons, List.not_mem_nil, or_false, not_or, not_false_eq_true]; try omega)
              have h_126 := h_125.fr fr_107 (by simp only [List.mem_cons, List.not_mem_nil, or_false, not_or, not_false_eq_true]; try omega) (by simp only [List.mem_cons, List.not_mem_nil, or_false, not_or, not_false_eq_true]; try omega)
              have h_127 := h_126.fr fr_110 (by simp only [List.mem_cons, List.not_mem_nil, or_false, not_or, not_false_eq_true]; try omega) (by simp only [List.mem_cons, List.not_mem_nil, or_false, not_or, not_false_eq_true]; try omega)
              have h_128 := h_127.fr hfr242 (by simp only [List.mem_cons, List.not_mem_nil, or_false, not_or, not_false_eq_true]; try omega) (by simp only [List.mem_cons, List.not_mem_nil, or_false, not_or, not_false_eq_true]; try omega)
              refine G_pV (rest := []) hC hR (c_By_has h_128 (by decide) (by omega) (by omega)) cv_Te_50 h_128.obj (by decide) (by omega) (by omega) rfl rfl (Nat.le_of_ble_eq_true rfl) d_Te_read_253 ?_
              refine G_if_eq hC 275 (by have := b2i_rng (hasS b.2 (wrd 7) start stop); omega) (by decide) d_Te_read_256 (fun c_129 => ?_) (fun c_129 => ?_)
              · have c_129 := b2i_eq0.mp c_129
                exact J275 M242 _ _ _ _ _ (hfr242.up (T := [t]) (by simp)) ho242 (or_no hrs242 (altT_f (Or.inl c_129)))
              · have c_129 := b2i_ne0.mp c_129
                refine G_aload_n hC 0 rfl rfl d_Te_read_259 ?_
                refine G_bipush (j := 6) hC (by decide +kernel) d_Te_read_260 ?_
                refine G_aload_n hC 1 rfl rfl d_Te_read_262 ?_
                refine G_iload hC 6 rfl d_Te_read_263 ?_
                refine G_bipush (j := 9) hC (by decide +kernel) d_Te_read_265 ?_
                refine G_iadd hC d_Te_read_267 ?_
                refine G_iload_n hC 3 rfl rfl d_Te_read_268 ?_
                refine G_xV (rest := []) hC hR (c_Te_readTarget ho242 h_128 (by omega) (by omega) (by omega)) cv_Te_54 ⟨_, _, ho242⟩ (by decide) (by omega) (by omega) rfl rfl (Nat.le_of_ble_eq_true rfl) d_Te_read_269 (fun r_132 M_130 p_131 => ?_)
                obtain ⟨rfl, h_133, fr_134⟩ := p_131
                show G E M_130 (0 + 0) (0 + 0) [(0, .ref a), (1, .ref o), (2, vI start), (3, vI stop), (4, vI (atS b.2 start)), (5, vI 0), (6, vI start)] [vI (b2i (targS b.2 (start + 9) stop))] 272
                refine G_if_ne hC 291 (by have := b2i_rng (targS b.2 (start + 9) stop); omega) (by decide) d_Te_read_272 (fun c_135 => ?_) (fun c_135 => ?_)
                · have c_135 := b2i_ne0.mp c_135
                  refine G_iconst (i := 1) hC d_Te_read_291 ?_
                  refine G_goto hC 296 (by decide) d_Te_read_292 ?_
                  have hP := or_yes hrs242 (altT_t c_129 c_135)
                  exact G_zretX _ hC hQ (by omega) (by omega) d_Te_read_296 (b2i_t (by rw [hP]; rfl)) ⟨_, _, _, _, _, rfl, (by unfold sgnS; rw [if_neg hs]; exact h_133), (fun tm htm => by rw [hP] at htm; exact (by cases htm; exact ⟨rfl, (fun z => by simp at z), (fun z => by simp at z), (fun d hd => by cases hd; exact ⟨rfl, rfl⟩), (fun z => by cases z)⟩)), ((((((fr_101.up (T := [t]) (by simp)).tr' (T := [t]) fr_104 (fun _ z => z) (by simp)).tr' (T := [t]) fr_107 (fun _ z => z) (by simp)).tr' (T := [t]) fr_110 (fun _ z => z) (by simp)).tr' (T := [t]) hfr242 (fun _ z => z) (by simp)).tr' (T := [t]) fr_134 (fun _ z => z) (by simp))⟩
                · have c_135 := b2i_eq0.mp c_135
                  exact J275 M_130 _ _ _ _ _ ((hfr242.up (T := [t]) (by simp)).tr' (T := [t]) fr_134 (fun _ z => z) (by simp)) h_133 (or_no hrs242 (altT_f (Or.inr c_135)))
          have J215 : ∀ (M215 : Mp) (k1 : Int) (n1 : Int) (w1 : Int32) (f1 : Int) (o1 : Int), (Fr [t] M_108 M215) → (M215 a = some (t, .inr (cTe, [vI k1, vI 43, vI n1, .int w1, vI f1, vI o1]))) → (rs5 b.2 (start) stop false = P) → G E M215 0 0 [(0, .ref a), (1, .ref o), (2, vI start), (3, vI stop), (4, vI (atS b.2 start)), (5, vI 0), (6, vI start)] [] 215 := by
            intro M215 k1 n1 w1 f1 o1 hfr215 ho215 hrs215
            refine G_aload_n hC 1 rfl rfl d_Te_read_215 ?_
            refine G_ldcS (tx := "exists:") (i := 6) hC (by decide) d_Te_read_216 ?_
            refine G_iload hC 6 rfl d_Te_read_218 ?_
            refine G_iload_n hC 3 rfl rfl d_Te_read_220 ?_
            have h_136 := h_B_o.fr fr_101 (by simp only [List.mem_cons, List.not_mem_nil, or_false, not_or, not_false_eq_true]; try omega) (by simp only [List.mem_cons, List.not_mem_nil, or_false, not_or, not_false_eq_true]; try omega)
            have h_137 := h_136.fr fr_104 (by simp only [List.mem_cons, List.not_mem_nil, or_false, not_or, not_false_eq_true]; try omega) (by simp only [List.mem_cons, List.not_mem_nil, or_false, not_or, not_false_eq_true]; try omega)
            have h_138 := h_137.fr fr_107 (by simp only [List.mem_cons, List.not_mem_nil, or_false, not_or, not_false_eq_true]; try omega) (by simp only [List.mem_cons, List.not_mem_nil, or_false, not_or, not_false_eq_true]; try omega)
            have h_139 := h_138.fr fr_110 (by simp only [List.mem_cons, List.not_mem_nil, or_false, not_or, not_false_eq_true]; try omega) (by simp only [List.mem_cons, List.not_mem_nil, or_false, not_or, not_false_eq_true]; try omega)
            have h_140 := h_139.fr hfr215 (by simp only [List.mem_cons, List.not_mem_nil, or_false, not_or, not_false_eq_true]; try omega) (by simp only [List.mem_cons, List.not_mem_nil, or_false, not_or, not_false_eq_true]; try omega)
            refine G_pV (rest := []) hC hR (c_By_has h_140 (by decide) (by omega) (by omega)) cv_Te_50 h_140.obj (by decide) (by omega) (by omega) rfl rfl (Nat.le_of_ble_eq_true rfl) d_Te_read_221 ?_
            refine G_if_eq hC 242 (by have := b2i_rng (hasS b.2 (wrd 6) start stop); omega) (by decide) d_Te_read_224 (fun c_141 => ?_) (fun c_141 => ?_)
            · have c_141 := b2i_eq0.mp c_141
              exact J242 M215 _ _ _ _ _ (hfr215.up (T := [t]) (by simp)) ho215 (or_no hrs215 (altT_f (Or.inl c_141)))
            · have c_141 := b2i_ne0.mp c_141
              refine G_aload_n hC 0 rfl rfl d_Te_read_227 ?_
              refine G_iconst (i := 5) hC d_Te_read_228 ?_
              refine G_aload_n hC 1 rfl rfl d_Te_read_229 ?_
              refine G_iload hC 6 rfl d_Te_read_230 ?_
              refine G_bipush (j := 7) hC (by decide +kernel) d_Te_read_232 ?_
              refine G_iadd hC d_Te_read_234 ?_
              refine G_iload_n hC 3 rfl rfl d_Te_read_235 ?_
              refine G_xV (rest := []) hC hR (c_Te_readTarget ho215 h_140 (by omega) (by omega) (by omega)) cv_Te_54 ⟨_, _, ho215⟩ (by decide) (by omega) (by omega) rfl rfl (Nat.le_of_ble_eq_true rfl) d_Te_read_236 (fun r_144 M_142 p_143 => ?_)
              obtain ⟨rfl, h_145, fr_146⟩ := p_143
              show G E M_142 (0 + 0) (0 + 0) [(0, .ref a), (1, .ref o), (2, vI start), (3, vI stop), (4, vI (atS b.2 start)), (5, vI 0), (6, vI start)] [vI (b2i (targS b.2 (start + 7) stop))] 239
              refine G_if_ne hC 291 (by have := b2i_rng (targS b.2 (start + 7) stop); omega) (by decide) d_Te_read_239 (fun c_147 => ?_) (fun c_147 => ?_)
              · have c_147 := b2i_ne0.mp c_147
                refine G_iconst (i := 1) hC d_Te_read_291 ?_
                refine G_goto hC 296 (by decide) d_Te_read_292 ?_
                have hP := or_yes hrs215 (altT_t c_141 c_147)
                exact G_zretX _ hC hQ (by omega) (by omega) d_Te_read_296 (b2i_t (by rw [hP]; rfl)) ⟨_, _, _, _, _, rfl, (by unfold sgnS; rw [if_neg hs]; exact h_145), (fun tm htm => by rw [hP] at htm; exact (by cases htm; exact ⟨rfl, (fun z => by simp at z), (fun z => by simp at z), (fun d hd => by cases hd; exact ⟨rfl, rfl⟩), (fun z => by cases z)⟩)), ((((((fr_101.up (T := [t]) (by simp)).tr' (T := [t]) fr_104 (fun _ z => z) (by simp)).tr' (T := [t]) fr_107 (fun _ z => z) (by simp)).tr' (T := [t]) fr_110 (fun _ z => z) (by simp)).tr' (T := [t]) hfr215 (fun _ z => z) (by simp)).tr' (T := [t]) fr_146 (fun _ z => z) (by simp))⟩
              · have c_147 := b2i_eq0.mp c_147
                exact J242 M_142 _ _ _ _ _ ((hfr215.up (T := [t]) (by simp)).tr' (T := [t]) fr_146 (fun _ z => z) (by simp)) h_145 (or_no hrs215 (altT_f (Or.inr c_147)))
          have J190 : ∀ (M190 : Mp) (k1 : Int) (n1 : Int) (w1 : Int32) (f1 : Int) (o1 : Int), (Fr [t] M_108 M190) → (M190 a = some (t, .inr (cTe, [vI k1, vI 43, vI n1, .int w1, vI f1, vI o1]))) → (rs4 b.2 (start) stop false = P) → ((n1 = 32) ∨ atS b.2 (start) = 97 ∨ atS b.2 (start) = 109) → G E M190 0 0 [(0, .ref a), (1, .ref o), (2, vI start), (3, vI stop), (4, vI (atS b.2 start)), (5, vI 0), (6, vI start)] [] 190 := by
            intro M190 k1 n1 w1 f1 o1 hfr190 ho190 hrs190 hcn190
            refine G_aload_n hC 1 rfl rfl d_Te_read_190 ?_
            refine G_ldcS (tx := "ip4:") (i := 5) hC (by decide) d_Te_read_191 ?_
            refine G_iload hC 6 rfl d_Te_read_193 ?_
            refine G_iload_n hC 3 rfl rfl d_Te_read_195 ?_
            have h_148 := h_B_o.fr fr_101 (by simp only [List.mem_cons, List.not_mem_nil, or_false, not_or, not_false_eq_true]; try omega) (by simp only [List.mem_cons, List.not_mem_nil, or_false, not_or, not_false_eq_true]; try omega)
            have h_149 := h_148.fr fr_104 (by simp only [List.mem_cons, List.not_mem_nil, or_false, not_or, not_false_eq_true]; try omega) (by simp only [List.mem_cons, List.not_mem_nil, or_false, not_or, not_false_eq_true]; try omega)
            have h_150 := h_149.fr fr_107 (by simp only [List.mem_cons, List.not_mem_nil, or_false, not_or, not_false_eq_true]; try omega) (by simp only [List.mem_cons, List.not_mem_nil, or_false, not_or, not_false_eq_true]; try omega)
            have h_151 := h_150.fr fr_110 (by simp only [List.mem_cons, List.not_mem_nil, or_false, not_or, not_false_eq_true]; try omega) (by simp only [List.mem_cons, List.not_mem_nil, or_false, not_or, not_false_eq_true]; try omega)
            have h_152 := h_151.fr hfr190 (by simp only [List.mem_cons, List.not_mem_nil, or_false, not_or, not_false_eq_true]; try omega) (by simp only [List.mem_cons, List.not_mem_nil, or_false, not_or, not_false_eq_true]; try omega)
            refine G_pV (rest := []) hC hR (c_By_has h_152 (by decide) (by omega) (by omega)) cv_Te_50 h_152.obj (by decide) (by omega) (by omega) rfl rfl (Nat.le_of_ble_eq_true rfl) d_Te_read_196 ?_
            refine G_if_eq hC 215 (by have := b2i_rng (hasS b.2 (wrd 5) start stop); omega) (by decide) d_Te_read_199 (fun c_153 => ?_) (fun c_153 => ?_)
            · have c_153 := b2i_eq0.mp c_153
              exact J215 M190 _ _ _ _ _ (hfr190.up (T := [t]) (by simp)) ho190 (or_no hrs190 (altI_f (Or.inl c_153)))
            · have c_153 := b2i_ne0.mp c_153
              refine G_aload_n hC 0 rfl rfl d_Te_read_202 ?_
              refine G_aload_n hC 1 rfl rfl d_Te_read_203 ?_
              refine G_iload hC 6 rfl d_Te_read_204 ?_
              refine G_iconst (i := 4) hC d_Te_read_206 ?_
              refine G_iadd hC d_Te_read_207 ?_
              refine G_iload_n hC 3 rfl rfl d_Te_read_208 ?_
              have hz209 := has_first (c := 105) c_153 ⟨by decide, by decide⟩
              refine G_xV (rest := []) hC hR (c_Te_readNetwork ho190 h_152 (by omega) (by omega) (by omega) (by omega) rfl) cv_Te_67 ⟨_, _, ho190⟩ (by decide) (by omega) (by omega) rfl rfl (Nat.le_of_ble_eq_true rfl) d_Te_read_209 (fun r_156 M_154 p_155 => ?_)
              obtain ⟨n1_157, w1_158, rfl, h_159, h_160, fr_161⟩ := p_155
              show G E M_154 (0 + 0) (0 + 0) [(0, .ref a), (1, .ref o), (2, vI start), (3, vI stop), (4, vI (atS b.2 start)), (5, vI 0), (6, vI start)] [vI (b2i (ip4S b.2 (start + 4) stop).isSome)] 212
              refine G_if_ne hC 291 (by have := b2i_rng ((ip4S b.2 (start + 4) stop).isSome); omega) (by decide) d_Te_read_212 (fun c_162 => ?_) (fun c_162 => ?_)
              · have c_162 := b2i_ne0.mp c_162
                refine G_iconst (i := 1) hC d_Te_read_291 ?_
                refine G_goto hC 296 (by decide) d_Te_read_292 ?_
                obtain ⟨v1, hv1⟩ := isS_t c_162
                have hP := or_yes hrs190 (altI_t c_153 hv1)
                exact G_zretX _ hC hQ (by omega) (by omega) d_Te_read_296 (b2i_t (by rw [hP]; rfl)) ⟨_, _, _, _, _, rfl, (by unfold sgnS; rw [if_neg hs]; exact h_159), (fun tm htm => by rw [hP] at htm; exact (by cases htm; exact h_160 _ hv1)), ((((((fr_101.up (T := [t]) (by simp)).tr' (T := [t]) fr_104 (fun _ z => z) (by simp)).tr' (T := [t]) fr_107 (fun _ z => z) (by simp)).tr' (T := [t]) fr_110 (fun _ z => z) (by simp)).tr' (T := [t]) hfr190 (fun _ z => z) (by simp)).tr' (T := [t]) fr_161 (fun _ z => z) (by simp))⟩
              · have c_162 := b2i_eq0.mp c_162
                exact J215 M_154 _ _ _ _ _ ((hfr190.up (T := [t]) (by simp)).tr' (T := [t]) fr_161 (fun _ z => z) (by simp)) h_159 (or_no hrs190 (altI_f (Or.inr (isS_f c_162))))
          have J164 : ∀ (M164 : Mp) (k1 : Int) (n1 : Int) (w1 : Int32) (f1 : Int) (o1 : Int), (Fr [t] M_108 M164) → (M164 a = some (t, .inr (cTe, [vI k1, vI 43, vI n1, .int w1, vI f1, vI o1]))) → (rs3 b.2 (start) stop false = P) → ((f1 = o1) ∨ atS b.2 (start) = 105 ∨ atS b.2 (start) = 97) → ((n1 = 32) ∨ atS b.2 (start) = 97) → G E M164 0 0 [(0, .ref a), (1, .ref o), (2, vI start), (3, vI stop), (4, vI (atS b.2 start)), (5, vI 0), (6, vI start)] [] 164 := by
            intro M164 k1 n1 w1 f1 o1 hfr164 ho164 hrs164 hcf164 hcn164
            refine G_aload_n hC 1 rfl rfl d_Te_read_164 ?_
            refine G_ldcS (tx := "mx") (i := 4) hC (by decide) d_Te_read_165 ?_
            refine G_iload hC 6 rfl d_Te_read_167 ?_
            refine G_iload_n hC 3 rfl rfl d_Te_read_169 ?_
            have h_163 := h_B_o.fr fr_101 (by simp only [List.mem_cons, List.not_mem_nil, or_false, not_or, not_false_eq_true]; try omega) (by simp only [List.mem_cons, List.not_mem_nil, or_false, not_or, not_false_eq_true]; try omega)
            have h_164 := h_163.fr fr_104 (by simp only [List.mem_cons, List.not_mem_nil, or_false, not_or, not_false_eq_true]; try omega) (by simp only [List.mem_cons, List.not_mem_nil, or_false, not_or, not_false_eq_true]; try omega)
            have h_165 := h_164.fr fr_107 (by simp only [List.mem_cons, List.not_mem_nil, or_false, not_or, not_false_eq_true]; try omega) (by simp only [List.mem_cons, List.not_mem_nil, or_false, not_or, not_false_eq_true]; try omega)
            have h_166 := h_165.fr fr_110 (by simp only [List.mem_cons, List.not_mem_nil, or_false, not_or, not_false_eq_true]; try omega) (by simp only [List.mem_cons, List.not_mem_nil, or_false, not_or, not_false_eq_true]; try omega)
            have h_167 := h_166.fr hfr164 (by simp only [List.mem_cons, List.not_mem_nil, or_false, not_or, not_false_eq_true]; try omega) (by simp only [List.mem_cons, List.not_mem_nil, or_false, not_or, not_false_eq_true]; try omega)
            refine G_pV (rest := []) hC hR (c_By_has h_167 (by decide) (by omega) (by omega)) cv_Te_50 h_167.obj (by decide) (by omega) (by omega) rfl rfl (Nat.le_of_ble_eq_true rfl) d_Te_read_170 ?_
            refine G_if_eq hC 190 (by have := b2i_rng (hasS b.2 (wrd 4) start stop); omega) (by decide) d_Te_read_173 (fun c_168 => ?_) (fun c_168 => ?_)
            · have c_168 := b2i_eq0.mp c_168
              exact J190 M164 _ _ _ _ _ (hfr164.up (T := [t]) (by simp)) ho164 (or_no hrs164 (altH_f (Or.inl c_168))) (by omega)
            · have c_168 := b2i_ne0.mp c_168
              refine G_aload_n hC 0 rfl rfl d_Te_read_176 ?_
              refine G_iconst (i := 3) hC d_Te_read_177 ?_
              refine G_aload_n hC 1 rfl rfl d_Te_read_178 ?_
              refine G_iload hC 6 rfl d_Te_read_179 ?_
              refine G_iconst (i := 2) hC d_Te_read_181 ?_
              refine G_iadd hC d_Te_read_182 ?_
              refine G_iload_n hC 3 rfl rfl d_Te_read_183 ?_
              have hz184 := has_first (c := 109) c_168 ⟨by decide, by decide⟩
              refine G_xV (rest := []) hC hR (c_Te_readHost ho164 h_167 (by omega) (by omega) (by omega) (by omega) (by omega) (by omega) rfl) cv_Te_60 ⟨_, _, ho164⟩ (by decide) (by omega) (by omega) rfl rfl (Nat.le_of_ble_eq_true rfl) d_Te_read_184 (fun r_171 M_169 p_170 => ?_)
              obtain ⟨n1_172, f1_173, o1_174, rfl, h_175, h_176, fr_177⟩ := p_170
              show G E M_169 (0 + 0) (0 + 0) [(0, .ref a), (1, .ref o), (2, vI start), (3, vI stop), (4, vI (atS b.2 start)), (5, vI 0), (6, vI start)] [vI (b2i (hostS b.2 3 (start + 2) stop).isSome)] 187
              refine G_if_ne hC 291 (by have := b2i_rng ((hostS b.2 3 (start + 2) stop).isSome); omega) (by decide) d_Te_read_187 (fun c_178 => ?_) (fun c_178 => ?_)
              · have c_178 := b2i_ne0.mp c_178
                refine G_iconst (i := 1) hC d_Te_read_291 ?_
                refine G_goto hC 296 (by decide) d_Te_read_292 ?_
                obtain ⟨v1, hv1⟩ := isS_t c_178
                have hP := or_yes hrs164 (altH_t c_168 hv1)
                exact G_zretX _ hC hQ (by omega) (by omega) d_Te_read_296 (b2i_t (by rw [hP]; rfl)) ⟨_, _, _, _, _, rfl, (by unfold sgnS; rw [if_neg hs]; exact h_175), (fun tm htm => by rw [hP] at htm; exact (by cases htm; exact h_176 _ hv1)), ((((((fr_101.up (T := [t]) (by simp)).tr' (T := [t]) fr_104 (fun _ z => z) (by simp)).tr' (T := [t]) fr_107 (fun _ z => z) (by simp)).tr' (T := [t]) fr_110 (fun _ z => z) (by simp)).tr' (T := [t]) hfr164 (fun _ z => z) (by simp)).tr' (T := [t]) fr_177 (fun _ z => z) (by simp))⟩
              · have c_178 := b2i_eq0.mp c_178
                exact J190 M_169 _ _ _ _ _ ((hfr164.up (T := [t]) (by simp)).tr' (T := [t]) fr_177 (fun _ z => z) (by simp)) h_175 (or_no hrs164 (altH_f (Or.inr (isS_f c_178)))) (by first | omega | (have z9 := has_first (c := 109) c_168 ⟨by decide, by decide⟩; omega))
          have J138 : ∀ (M138 : Mp) (k1 : Int) (n1 : Int) (w1 : Int32) (f1 : Int) (o1 : Int), (Fr [t] M_108 M138) → (M138 a = some (t, .inr (cTe, [vI k1, vI 43, vI n1, .int w1, vI f1, vI o1]))) → (rs2 b.2 (start) stop false = P) → ((f1 = o1) ∨ atS b.2 (start) = 105) → ((n1 = 32)) → G E M138 0 0 [(0, .ref a), (1, .ref o), (2, vI start), (3, vI stop), (4, vI (atS b.2 start)), (5, vI 0), (6, vI start)] [] 138 := by
            intro M138 k1 n1 w1 f1 o1 hfr138 ho138 hrs138 hcf138 hcn138
            refine G_aload_n hC 1 rfl rfl d_Te_read_138 ?_
            refine G_ldcS (tx := "a") (i := 3) hC (by decide) d_Te_read_139 ?_
            refine G_iload hC 6 rfl d_Te_read_141 ?_
            refine G_iload_n hC 3 rfl rfl d_Te_read_143 ?_
            have h_179 := h_B_o.fr fr_101 (by simp only [List.mem_cons, List.not_mem_nil, or_false, not_or, not_false_eq_true]; try omega) (by simp only [List.mem_cons, List.not_mem_nil, or_false, not_or, not_false_eq_true]; try omega)
            have h_180 := h_179.fr fr_104 (by simp only [List.mem_cons, List.not_mem_nil, or_false, not_or, not_false_eq_true]; try omega) (by simp only [List.mem_cons, List.not_mem_nil, or_false, not_or, not_false_eq_true]; try omega)
            have h_181 := h_180.fr fr_107 (by simp only [List.mem_cons, List.not_mem_nil, or_false, not_or, not_false_eq_true]; try omega) (by simp only [List.mem_cons, List.not_mem_nil, or_false, not_or, not_false_eq_true]; try omega)
            have h_182 := h_181.fr fr_110 (by simp only [List.mem_cons, List.not_mem_nil, or_false, not_or, not_false_eq_true]; try omega) (by simp only [List.mem_cons, List.not_mem_nil, or_false, not_or, not_false_eq_true]; try omega)
            have h_183 := h_182.fr hfr138 (by simp only [List.mem_cons, List.not_mem_nil, or_false, not_or, not_false_eq_true]; try omega) (by simp only [List.mem_cons, List.not_mem_nil, or_false, not_or, not_false_eq_true]; try omega)
            refine G_pV (rest := []) hC hR (c_By_has h_183 (by decide) (by omega) (by omega)) cv_Te_50 h_183.obj (by decide) (by omega) (by omega) rfl rfl (Nat.le_of_ble_eq_true rfl) d_Te_read_144 ?_
            refine G_if_eq hC 164 (by have := b2i_rng (hasS b.2 (wrd 3) start stop); omega) (by decide) d_Te_read_147 (fun c_184 => ?_) (fun c_184 => ?_)
            · have c_184 := b2i_eq0.mp c_184
              exact J164 M138 _ _ _ _ _ (hfr138.up (T := [t]) (by simp)) ho138 (or_no hrs138 (altH_f (Or.inl c_184))) (by omega) (by omega)
            · have c_184 := b2i_ne0.mp c_184
              refine G_aload_n hC 0 rfl rfl d_Te_read_150 ?_
              refine G_iconst (i := 2) hC d_Te_read_151 ?_
              refine G_aload_n hC 1 rfl rfl d_Te_read_152 ?_
              refine G_iload hC 6 rfl d_Te_read_153 ?_
              refine G_iconst (i := 1) hC d_Te_read_155 ?_
              refine G_iadd hC d_Te_read_156 ?_
              refine G_iload_n hC 3 rfl rfl d_Te_read_157 ?_
              have hz158 := has_first (c := 97) c_184 ⟨by decide, by decide⟩
              refine G_xV (rest := []) hC hR (c_Te_readHost ho138 h_183 (by omega) (by omega) (by omega) (by omega) (by omega) (by omega) rfl) cv_Te_60 ⟨_, _, ho138⟩ (by decide) (by omega) (by omega) rfl rfl (Nat.le_of_ble_eq_true rfl) d_Te_read_158 (fun r_187 M_185 p_186 => ?_)
              obtain ⟨n1_188, f1_189, o1_190, rfl, h_191, h_192, fr_193⟩ := p_186
              show G E M_185 (0 + 0) (0 + 0) [(0, .ref a), (1, .ref o), (2, vI start), (3, vI stop), (4, vI (atS b.2 start)), (5, vI 0), (6, vI start)] [vI (b2i (hostS b.2 2 (start + 1) stop).isSome)] 161
              refine G_if_ne hC 291 (by have := b2i_rng ((hostS b.2 2 (start + 1) stop).isSome); omega) (by decide) d_Te_read_161 (fun c_194 => ?_) (fun c_194 => ?_)
              · have c_194 := b2i_ne0.mp c_194
                refine G_iconst (i := 1) hC d_Te_read_291 ?_
                refine G_goto hC 296 (by decide) d_Te_read_292 ?_
                obtain ⟨v1, hv1⟩ := isS_t c_194
                have hP := or_yes hrs138 (altH_t c_184 hv1)
                exact G_zretX _ hC hQ (by omega) (by omega) d_Te_read_296 (b2i_t (by rw [hP]; rfl)) ⟨_, _, _, _, _, rfl, (by unfold sgnS; rw [if_neg hs]; exact h_191), (fun tm htm => by rw [hP] at htm; exact (by cases htm; exact h_192 _ hv1)), ((((((fr_101.up (T := [t]) (by simp)).tr' (T := [t]) fr_104 (fun _ z => z) (by simp)).tr' (T := [t]) fr_107 (fun _ z => z) (by simp)).tr' (T := [t]) fr_110 (fun _ z => z) (by simp)).tr' (T := [t]) hfr138 (fun _ z => z) (by simp)).tr' (T := [t]) fr_193 (fun _ z => z) (by simp))⟩
              · have c_194 := b2i_eq0.mp c_194
                exact J164 M_185 _ _ _ _ _ ((hfr138.up (T := [t]) (by simp)).tr' (T := [t]) fr_193 (fun _ z => z) (by simp)) h_191 (or_no hrs138 (altH_f (Or.inr (isS_f c_194)))) (by first | omega | (have z9 := has_first (c := 97) c_184 ⟨by decide, by decide⟩; omega)) (by first | omega | (have z9 := has_first (c := 97) c_184 ⟨by decide, by decide⟩; omega))
          refine G_aload_n hC 1 rfl rfl d_Te_read_100 ?_
          refine G_aload_n hC 2 rfl rfl d_Te_read_101 ?_
          refine G_iload hC 0 rfl d_Te_read_102 ?_
          refine G_iload_n hC 4 rfl rfl d_Te_read_104 ?_
          have h_195 := h_B_o.fr fr_101 (by simp only [List.mem_cons, List.not_mem_nil, or_false, not_or, not_false_eq_true]; try omega) (by simp only [List.mem_cons, List.not_mem_nil, or_false, not_or, not_false_eq_true]; try omega)
          have h_196 := h_195.fr fr_104 (by simp only [List.mem_cons, List.not_mem_nil, or_false, not_or, not_false_eq_true]; try omega) (by simp only [List.mem_cons, List.not_mem_nil, or_false, not_or, not_false_eq_true]; try omega)
          have h_197 := h_196.fr fr_107 (by simp only [List.mem_cons, List.not_mem_nil, or_false, not_or, not_false_eq_true]; try omega) (by simp only [List.mem_cons, List.not_mem_nil, or_false, not_or, not_false_eq_true]; try omega)
          have h_198 := h_197.fr fr_110 (by simp only [List.mem_cons, List.not_mem_nil, or_false, not_or, not_false_eq_true]; try omega) (by simp only [List.mem_cons, List.not_mem_nil, or_false, not_or, not_false_eq_true]; try omega)
          refine G_xV (rest := []) hC hR (c_Te_readAll h_109 h_198 (by omega) (by omega) (by omega)) cv_Te_44 ⟨_, _, h_109⟩ (by decide) (by omega) (by omega) rfl rfl (Nat.le_of_ble_eq_true rfl) d_Te_read_105 (fun r_201 M_199 p_200 => ?_)
          obtain ⟨rfl, h_202, fr_203⟩ := p_200
          show G E M_199 (0 + 0) (0 + 0) [(6, vI start), (0, .ref a), (1, .ref o), (2, vI start), (3, vI stop), (4, vI (atS b.2 start)), (5, vI 0)] [vI (b2i (decide (stop - start = 3 ∧ hasS b.2 (wrd 1) start stop = true)))] 108
          refine G_if_ne hC 291 (by have := b2i_rng (decide (stop - start = 3 ∧ hasS b.2 (wrd 1) start stop = true)); omega) (by decide) d_Te_read_108 (fun c_204 => ?_) (fun c_204 => ?_)
          · have c_204 := b2i_ne0.mp c_204
            have c_204 := of_decide_eq_true c_204
            refine G_iconst (i := 1) hC d_Te_read_291 ?_
            refine G_goto hC 296 (by decide) d_Te_read_292 ?_
            have hP := or_yes hr (show altAll b.2 (start) stop = some (0, 32, 0, none) from if_pos c_204)
            exact G_zretX _ hC hQ (by omega) (by omega) d_Te_read_296 (b2i_t (by rw [hP]; rfl)) ⟨_, _, _, _, _, rfl, (by unfold sgnS; rw [if_neg hs]; exact h_202), (fun tm htm => by rw [hP] at htm; exact (by cases htm; exact ⟨rfl, (fun z => by simp at z), (fun z => by simp at z), (fun d hd => by cases hd), (fun _ z => by simp at z)⟩)), (((((fr_101.up (T := [t]) (by simp)).tr' (T := [t]) fr_104 (fun _ z => z) (by simp)).tr' (T := [t]) fr_107 (fun _ z => z) (by simp)).tr' (T := [t]) fr_110 (fun _ z => z) (by simp)).tr' (T := [t]) fr_203 (fun _ z => z) (by simp))⟩
          · have c_204 := b2i_eq0.mp c_204
            have c_204 := of_decide_eq_false c_204
            have hrs111 := or_no hr (show altAll b.2 (start) stop = none from if_neg c_204)
            refine G_aload_n hC 2 rfl rfl d_Te_read_111 ?_
            refine G_ldcS (tx := "include:") (i := 2) hC (by decide) d_Te_read_112 ?_
            refine G_iload hC 0 rfl d_Te_read_114 ?_
            refine G_iload_n hC 4 rfl rfl d_Te_read_116 ?_
            have h_205 := h_198.fr fr_203 (by simp only [List.mem_cons, List.not_mem_nil, or_false, not_or, not_false_eq_true]; try omega) (by simp only [List.mem_cons, List.not_mem_nil, or_false, not_or, not_false_eq_true]; try omega)
            refine G_pV (rest := []) hC hR (c_By_has h_205 (by decide) (by omega) (by omega)) cv_Te_50 h_205.obj (by decide) (by omega) (by omega) rfl rfl (Nat.le_of_ble_eq_true rfl) d_Te_read_117 ?_
            refine G_if_eq hC 138 (by have := b2i_rng (hasS b.2 (wrd 2) start stop); omega) (by decide) d_Te_read_120 (fun c_206 => ?_) (fun c_206 => ?_)
            · have c_206 := b2i_eq0.mp c_206
              refine G_lv [1, 2, 3, 4, 5, 6, 0] rfl ?_
              exact J138 M_199 _ _ _ _ _ (fr_203.up (T := [t]) (by simp)) h_202 (or_no hrs111 (altT_f (Or.inl c_206))) (by first | omega | (have z9 := has_first (c := 105) c_204 ⟨by decide, by decide⟩; omega)) (by first | omega | (have z9 := has_first (c := 105) c_204 ⟨by decide, by decide⟩; omega))
            · have c_206 := b2i_ne0.mp c_206
              refine G_aload_n hC 1 rfl rfl d_Te_read_123 ?_
              refine G_iconst (i := 1) hC d_Te_read_124 ?_
              refine G_aload_n hC 2 rfl rfl d_Te_read_125 ?_
              refine G_iload hC 0 rfl d_Te_read_126 ?_
              refine G_bipush (j := 8) hC (by decide +kernel) d_Te_read_128 ?_
              refine G_iadd hC d_Te_read_130 ?_
              refine G_iload_n hC 4 rfl rfl d_Te_read_131 ?_
              refine G_xV (rest := []) hC hR (c_Te_readTarget h_202 h_205 (by omega) (by omega) (by omega)) cv_Te_54 ⟨_, _, h_202⟩ (by decide) (by omega) (by omega) rfl rfl (Nat.le_of_ble_eq_true rfl) d_Te_read_132 (fun r_209 M_207 p_208 => ?_)
              obtain ⟨rfl, h_210, fr_211⟩ := p_208
              show G E M_207 (0 + 0 + 0) (0 + 0 + 0) [(6, vI start), (0, .ref a), (1, .ref o), (2, vI start), (3, vI stop), (4, vI (atS b.2 start)), (5, vI 0)] [vI (b2i (targS b.2 (start + 8) stop))] 135
              refine G_if_ne hC 291 (by have := b2i_rng (targS b.2 (start + 8) stop); omega) (by decide) d_Te_read_135 (fun c_212 => ?_) (fun c_212 => ?_)
              · have c_212 := b2i_ne0.mp c_212
                refine G_iconst (i := 1) hC d_Te_read_291 ?_
                refine G_goto hC 296 (by decide) d_Te_read_292 ?_
                have hP := or_yes hrs111 (altT_t c_206 c_212)
                exact G_zretX _ hC hQ (by omega) (by omega) d_Te_read_296 (b2i_t (by rw [hP]; rfl)) ⟨_, _, _, _, _, rfl, (by unfold sgnS; rw [if_neg hs]; exact h_210), (fun tm htm => by rw [hP] at htm; exact (by cases htm; exact ⟨rfl, (fun z => by simp at z), (fun z => by simp at z), (fun d hd => by cases hd; exact ⟨rfl, rfl⟩), (fun z => by cases z)⟩)), ((((((fr_101.up (T := [t]) (by simp)).tr' (T := [t]) fr_104 (fun _ z => z) (by simp)).tr' (T := [t]) fr_107 (fun _ z => z) (by simp)).tr' (T := [t]) fr_110 (fun _ z => z) (by simp)).tr' (T := [t]) fr_203 (fun _ z => z) (by simp)).tr' (T := [t]) fr_211 (fun _ z => z) (by simp))⟩
              · have c_212 := b2i_eq0.mp c_212
                refine G_lv [1, 2, 3, 4, 5, 6, 0] rfl ?_
                exact J138 M_207 _ _ _ _ _ ((fr_203.up (T := [t]) (by simp)).tr' (T := [t]) fr_211 (fun _ z => z) (by simp)) h_210 (or_no hrs111 (altT_f (Or.inr c_212))) (by first | omega | (have z9 := has_first (c := 105) c_206 ⟨by decide, by decide⟩; omega)) (by first | omega | (have z9 := has_first (c := 105) c_206 ⟨by decide, by decide⟩; omega))
        · exact (show False from by omega).elim
      · exact (show False from by omega).elim
  refine G_iload hC 0 rfl d_Te_read_19 ?_
  refine G_bipush (j := 43) hC (by decide +kernel) d_Te_read_21 ?_
  refine G_icmp_eq hC 47 (by omega) (by decide) (by decide) d_Te_read_23 (fun c_213 => ?_) (fun c_213 => ?_)
  · refine G_iconst (i := 1) hC d_Te_read_47 ?_
    refine G_goto hC 52 (by decide) d_Te_read_48 ?_
    refine G_istore (lv' := [(5, vI 1), (4, vI (atS b.2 start)), (3, vI stop), (0, .ref a), (1, .ref o), (2, vI start)]) hC (by rw [hN]; decide) rfl d_Te_read_52 ?_
    refine G_lv [3, 4, 5, 2, 1, 0] rfl ?_
    exact J54 1 (b2i_t (decide_eq_true (by omega)))
  · refine G_iload hC 0 rfl d_Te_read_26 ?_
    refine G_bipush (j := 63) hC (by decide +kernel) d_Te_read_28 ?_
    refine G_icmp_eq hC 47 (by omega) (by decide) (by decide) d_Te_read_30 (fun c_214 => ?_) (fun c_214 => ?_)
    · refine G_iconst (i := 1) hC d_Te_read_47 ?_
      refine G_goto hC 52 (by decide) d_Te_read_48 ?_
      refine G_istore (lv' := [(5, vI 1), (4, vI (atS b.2 start)), (3, vI stop), (0, .ref a), (1, .ref o), (2, vI start)]) hC (by rw [hN]; decide) rfl d_Te_read_52 ?_
      refine G_lv [3, 4, 5, 2, 1, 0] rfl ?_
      exact J54 1 (b2i_t (decide_eq_true (by omega)))
    · refine G_iload hC 0 rfl d_Te_read_33 ?_
      refine G_bipush (j := 126) hC (by decide +kernel) d_Te_read_35 ?_
      refine G_icmp_eq hC 47 (by omega) (by decide) (by decide) d_Te_read_37 (fun c_215 => ?_) (fun c_215 => ?_)
      · refine G_iconst (i := 1) hC d_Te_read_47 ?_
        refine G_goto hC 52 (by decide) d_Te_read_48 ?_
        refine G_istore (lv' := [(5, vI 1), (4, vI (atS b.2 start)), (3, vI stop), (0, .ref a), (1, .ref o), (2, vI start)]) hC (by rw [hN]; decide) rfl d_Te_read_52 ?_
        refine G_lv [3, 4, 5, 2, 1, 0] rfl ?_
        exact J54 1 (b2i_t (decide_eq_true (by omega)))
      · refine G_iload hC 0 rfl d_Te_read_40 ?_
        refine G_bipush (j := 45) hC (by decide +kernel) d_Te_read_42 ?_
        refine G_icmp_ne hC 51 (by omega) (by decide) (by decide) d_Te_read_44 (fun c_216 => ?_) (fun c_216 => ?_)
        · refine G_iconst (i := 0) hC d_Te_read_51 ?_
          refine G_istore (lv' := [(5, vI 0), (4, vI (atS b.2 start)), (3, vI stop), (0, .ref a), (1, .ref o), (2, vI start)]) hC (by rw [hN]; decide) rfl d_Te_read_52 ?_
          refine G_lv [3, 4, 5, 2, 1, 0] rfl ?_
          exact J54 0 (b2i_f (decide_eq_false (by omega)))
        · refine G_iconst (i := 1) hC d_Te_read_47 ?_
          refine G_goto hC 52 (by decide) d_Te_read_48 ?_
          refine G_istore (lv' := [(5, vI 1), (4, vI (atS b.2 start)), (3, vI stop), (0, .ref a), (1, .ref o), (2, vI start)]) hC (by rw [hN]; decide) rfl d_Te_read_52 ?_
          refine G_lv [3, 4, 5, 2, 1, 0] rfl ?_
          exact J54 1 (b2i_t (decide_eq_true (by omega)))
end
section
/-! MORE ROWS -/
theorem G_vIN {E : Cxt} {cc cc' : ByteArray} {y y' : MethodName} {host : String} {M : Mp} {k n pc idx d0 dE mcE msE nL' np b : Nat} {lv : List (Nat × Value)} {st As rest : List Value} (hC : Cx E cc y) (hR : eR E = rmD dE mcE msE) (hM : OkV (eL E) (eD E) (eB E) d0 y' cc' nL' none M (.ref b :: As)) (hW : CMi y.cls idx y' host cc' nL' np) (hd : d0 + 1 ≤ dE) (hk : k ≤ mcE) (hn : n ≤ msE) (hnp : As.length = np) (hst : st = As.reverse ++ .ref b :: rest) (hrm : (rest.map fun v => v.category).sum ≤ 8) (d : decode cc pc = .ok (.invokespecial idx, 3))
    (kk : G E M k n lv rest (pc + 3)) : G E M k n lv st pc :=
  G_xIN hC hR hM hW hd hk hn hnp hst hrm d (fun r M' hp => by obtain ⟨rfl, rfl⟩ := hp; exact kk)
theorem cut0 (b : Bv) : cutB b 0 = (b.1, []) := by
  unfold cutB
  by_cases h : (0 : Int) ≤ 0 ∧ (0 : Int) < b.2.length
  · rw [if_pos h]
    rfl
  · rw [if_neg h]
    have h1 : b.2 = [] := List.length_eq_zero_iff.mp (by omega)
    rw [← h1]
theorem cut0_psi (lim : Int) (b : Bv) (_ : (b.1 : Int) ≤ lim) : psi lim (b.1, ([] : List Int)) = psi lim b := rfl
end
section
theorem fws_Le : ∀ w ∈ u_ws R_Le F_Le 4, w ∈ TB := by decide +kernel
theorem ft_Le : FT cLe t_Le := fun C T N h => by
  have h2 : some (R_Le, F_Le, 4) = some (C, T, N) := h
  cases h2
  exact ⟨by decide +kernel, by decide +kernel⟩
theorem fl_Le_31 : FL "SendPolicy$Level" 31 cLe 3 := ⟨R_Le, F_Le, 4, rfl, fws_Le, (Nat.le_of_ble_eq_true rfl), (tb_in 175 (by decide +kernel) rfl)⟩
theorem lm_Le_3 : Cond.methodLink "SendPolicy$Level" 3 ⟨"java/lang/Object", "<init>", "()V"⟩ ∈ TB := (tb_in 142 (by decide +kernel) rfl)
theorem kl_Le_9 : Cond.classLink "SendPolicy$Level" 9 "SendPolicy$Bytes" ∈ TB := (tb_in 143 (by decide +kernel) rfl)
theorem nw_Le_9 : NewW "SendPolicy$Level" 9 cBy 3 t_By := ⟨R_By, F_By, rfl, ft_By, fws_By, kl_Le_9, (tb_in 58 (by decide +kernel) rfl), (tb_in 31 (by decide +kernel) rfl)⟩
theorem ci_Le_11 : CI "SendPolicy$Level" 11 y_By_init b_By_init 2 1 := ⟨mw_By_init, (tb_in 144 (by decide +kernel) rfl), (tb_in 60 (by decide +kernel) rfl), rfl⟩
theorem fl_Le_14 : FL "SendPolicy$Level" 14 cLe 0 := ⟨R_Le, F_Le, 4, rfl, fws_Le, (Nat.le_of_ble_eq_true rfl), (tb_in 170 (by decide +kernel) rfl)⟩
theorem ff_Le_0 : FF "SendPolicy$Level" cLe 0 := fun C T N h => by
  have h2 : some (R_Le, F_Le, 4) = some (C, T, N) := h
  cases h2
  exact ⟨rfl, rfl⟩
theorem kl_Le_20 : Cond.classLink "SendPolicy$Level" 20 "SendPolicy$Term" ∈ TB := (tb_in 145 (by decide +kernel) rfl)
theorem nw_Le_20 : NewW "SendPolicy$Level" 20 cTe 6 t_Te := ⟨R_Te, F_Te, rfl, ft_Te, fws_Te, kl_Le_20, (tb_in 146 (by decide +kernel) rfl), (tb_in 38 (by decide +kernel) rfl)⟩
set_option maxRecDepth 100000 in
theorem mw_Te_init : MW y_Te_init b_Te_init 1 none 0 := ⟨tb_in 149 rfl rfl, (tb_in 38 (by decide +kernel) rfl), ⟨by decide +kernel, by decide +kernel, by decide +kernel⟩, (Nat.le_of_ble_eq_true rfl)⟩
theorem cm_Le_22 : CMi "SendPolicy$Level" 22 y_Te_init "SendPolicy" b_Te_init 1 0 := ⟨mw_Te_init, (tb_in 148 (by decide +kernel) rfl), rfl, by decide⟩
theorem fl_Le_23 : FL "SendPolicy$Level" 23 cLe 1 := ⟨R_Le, F_Le, 4, rfl, fws_Le, (Nat.le_of_ble_eq_true rfl), (tb_in 172 (by decide +kernel) rfl)⟩
theorem ff_Le_1 : FF "SendPolicy$Level" cLe 1 := fun C T N h => by
  have h2 : some (R_Le, F_Le, 4) = some (C, T, N) := h
  cases h2
  exact ⟨rfl, rfl⟩
theorem fl_Le_27 : FL "SendPolicy$Level" 27 cLe 2 := ⟨R_Le, F_Le, 4, rfl, fws_Le, (Nat.le_of_ble_eq_true rfl), (tb_in 174 (by decide +kernel) rfl)⟩
theorem fw_Le_2 : FW cLe 2 := fun C T N h => by
  have h2 : some (R_Le, F_Le, 4) = some (C, T, N) := h
  cases h2
  rfl
theorem fw_Le_3 : FW cLe 3 := fun C T N h => by
  have h2 : some (R_Le, F_Le, 4) = some (C, T, N) := h
  cases h2
  rfl
theorem cv_Le_34 : CV "SendPolicy$Level" 34 y_By_size b_By_size 1 (some .int) 0 cBy := ⟨mw_By_size, (tb_in 473 (by decide +kernel) rfl), (tb_in 233 (by decide +kernel) rfl), (tb_in 234 (by decide +kernel) rfl), _, rfl, rfl⟩
set_option maxRecDepth 100000 in
theorem mw_Te_startsAt : MW y_Te_startsAt b_Te_startsAt 2 (some .boolean) 2 := ⟨tb_in 476 rfl rfl, (tb_in 38 (by decide +kernel) rfl), ⟨by decide +kernel, by decide +kernel, by decide +kernel⟩, (Nat.le_of_ble_eq_true rfl)⟩
theorem cs_Le_38 : CS "SendPolicy$Level" 38 y_Te_startsAt b_Te_startsAt 2 (some .boolean) 2 := ⟨mw_Te_startsAt, (tb_in 474 (by decide +kernel) rfl), (tb_in 475 (by decide +kernel) rfl)⟩
set_option maxRecDepth 100000 in
theorem mw_Te_read : MW y_Te_read b_Te_read 7 (some .boolean) 2 := ⟨tb_in 481 rfl rfl, (tb_in 38 (by decide +kernel) rfl), ⟨by decide +kernel, by decide +kernel, by decide +kernel⟩, (Nat.le_of_ble_eq_true rfl)⟩
theorem cv_Le_42 : CV "SendPolicy$Level" 42 y_Te_read b_Te_read 7 (some .boolean) 2 cTe := ⟨mw_Te_read, (tb_in 478 (by decide +kernel) rfl), (tb_in 479 (by decide +kernel) rfl), (tb_in 480 (by decide +kernel) rfl), _, rfl, rfl⟩
set_option maxRecDepth 100000 in
theorem mw_Te_kind : MW y_Te_kind b_Te_kind 1 (some .int) 0 := ⟨tb_in 540 rfl rfl, (tb_in 38 (by decide +kernel) rfl), ⟨by decide +kernel, by decide +kernel, by decide +kernel⟩, (Nat.le_of_ble_eq_true rfl)⟩
theorem cv_Le_45 : CV "SendPolicy$Level" 45 y_Te_kind b_Te_kind 1 (some .int) 0 cTe := ⟨mw_Te_kind, (tb_in 537 (by decide +kernel) rfl), (tb_in 538 (by decide +kernel) rfl), (tb_in 539 (by decide +kernel) rfl), _, rfl, rfl⟩
set_option maxRecDepth 100000 in
theorem mw_Le_hasRedirect : MW y_Le_hasRedirect b_Le_hasRedirect 1 (some .boolean) 0 := ⟨tb_in 544 rfl rfl, (tb_in 37 (by decide +kernel) rfl), ⟨by decide +kernel, by decide +kernel, by decide +kernel⟩, (Nat.le_of_ble_eq_true rfl)⟩
theorem cv_Le_48 : CV "SendPolicy$Level" 48 y_Le_hasRedirect b_Le_hasRedirect 1 (some .boolean) 0 cLe := ⟨mw_Le_hasRedirect, (tb_in 541 (by decide +kernel) rfl), (tb_in 542 (by decide +kernel) rfl), (tb_in 543 (by decide +kernel) rfl), _, rfl, rfl⟩
set_option maxRecDepth 100000 in
theorem mw_Te_from : MW y_Te_from b_Te_from 1 (some .int) 0 := ⟨tb_in 548 rfl rfl, (tb_in 38 (by decide +kernel) rfl), ⟨by decide +kernel, by decide +kernel, by decide +kernel⟩, (Nat.le_of_ble_eq_true rfl)⟩
theorem cv_Le_52 : CV "SendPolicy$Level" 52 y_Te_from b_Te_from 1 (some .int) 0 cTe := ⟨mw_Te_from, (tb_in 545 (by decide +kernel) rfl), (tb_in 546 (by decide +kernel) rfl), (tb_in 547 (by decide +kernel) rfl), _, rfl, rfl⟩
set_option maxRecDepth 100000 in
theorem mw_Te_to : MW y_Te_to b_Te_to 1 (some .int) 0 := ⟨tb_in 552 rfl rfl, (tb_in 38 (by decide +kernel) rfl), ⟨by decide +kernel, by decide +kernel, by decide +kernel⟩, (Nat.le_of_ble_eq_true rfl)⟩
theorem cv_Le_55 : CV "SendPolicy$Level" 55 y_Te_to b_Te_to 1 (some .int) 0 cTe := ⟨mw_Te_to, (tb_in 549 (by decide +kernel) rfl), (tb_in 550 (by decide +kernel) rfl), (tb_in 551 (by decide +kernel) rfl), _, rfl, rfl⟩
theorem lm_Ma_3 : Cond.methodLink "SendPolicy$Macros" 3 ⟨"java/lang/Object", "<init>", "()V"⟩ ∈ TB := (tb_in 121 (by decide +kernel) rfl)
theorem fws_Ma : ∀ w ∈ u_ws R_Ma F_Ma 2, w ∈ TB := by decide +kernel
theorem ft_Ma : FT cMa t_Ma := fun C T N h => by
  have h2 : some (R_Ma, F_Ma, 2) = some (C, T, N) := h
  cases h2
  exact ⟨by decide +kernel, by decide +kernel⟩
theorem fl_Ma_9 : FL "SendPolicy$Macros" 9 cMa 0 := ⟨R_Ma, F_Ma, 2, rfl, fws_Ma, (Nat.le_of_ble_eq_true rfl), (tb_in 122 (by decide +kernel) rfl)⟩
theorem ff_Ma_0 : FF "SendPolicy$Macros" cMa 0 := fun C T N h => by
  have h2 : some (R_Ma, F_Ma, 2) = some (C, T, N) := h
  cases h2
  exact ⟨rfl, rfl⟩
theorem fl_Ma_15 : FL "SendPolicy$Macros" 15 cMa 1 := ⟨R_Ma, F_Ma, 2, rfl, fws_Ma, (Nat.le_of_ble_eq_true rfl), (tb_in 123 (by decide +kernel) rfl)⟩
theorem ff_Ma_1 : FF "SendPolicy$Macros" cMa 1 := fun C T N h => by
  have h2 : some (R_Ma, F_Ma, 2) = some (C, T, N) := h
  cases h2
  exact ⟨rfl, rfl⟩
theorem cv_Ma_36 : CV "SendPolicy$Macros" 36 y_By_add b_By_add 2 none 1 cBy := ⟨mw_By_add, (tb_in 593 (by decide +kernel) rfl), (tb_in 241 (by decide +kernel) rfl), (tb_in 242 (by decide +kernel) rfl), _, rfl, rfl⟩
set_option maxRecDepth 100000 in
theorem mw_Ma_writeSign : MW y_Ma_writeSign b_Ma_writeSign 2 none 2 := ⟨tb_in 596 rfl rfl, (tb_in 35 (by decide +kernel) rfl), ⟨by decide +kernel, by decide +kernel, by decide +kernel⟩, (Nat.le_of_ble_eq_true rfl)⟩
theorem cs_Ma_40 : CS "SendPolicy$Macros" 40 y_Ma_writeSign b_Ma_writeSign 2 none 2 := ⟨mw_Ma_writeSign, (tb_in 594 (by decide +kernel) rfl), (tb_in 595 (by decide +kernel) rfl)⟩
set_option maxRecDepth 100000 in
theorem mw_Se_source : MW y_Se_source b_Se_source 3 (some (.object "SendPolicy$Bytes")) 2 := ⟨tb_in 600 rfl rfl, (tb_in 34 (by decide +kernel) rfl), ⟨by decide +kernel, by decide +kernel, by decide +kernel⟩, (Nat.le_of_ble_eq_true rfl)⟩
theorem cv_Ma_44 : CV "SendPolicy$Macros" 44 y_Se_source b_Se_source 3 (some (.object "SendPolicy$Bytes")) 2 cSe := ⟨mw_Se_source, (tb_in 597 (by decide +kernel) rfl), (tb_in 598 (by decide +kernel) rfl), (tb_in 599 (by decide +kernel) rfl), _, rfl, rfl⟩
theorem cv_Ma_50 : CV "SendPolicy$Macros" 50 y_By_size b_By_size 1 (some .int) 0 cBy := ⟨mw_By_size, (tb_in 601 (by decide +kernel) rfl), (tb_in 233 (by decide +kernel) rfl), (tb_in 234 (by decide +kernel) rfl), _, rfl, rfl⟩
set_option maxRecDepth 100000 in
theorem mw_Ma_writeParts : MW y_Ma_writeParts b_Ma_writeParts 9 none 4 := ⟨tb_in 605 rfl rfl, (tb_in 35 (by decide +kernel) rfl), ⟨by decide +kernel, by decide +kernel, by decide +kernel⟩, (Nat.le_of_ble_eq_true rfl)⟩
theorem cv_Ma_54 : CV "SendPolicy$Macros" 54 y_Ma_writeParts b_Ma_writeParts 9 none 4 cMa := ⟨mw_Ma_writeParts, (tb_in 602 (by decide +kernel) rfl), (tb_in 604 (by decide +kernel) rfl), (tb_in 12 (by decide +kernel) rfl), _, rfl, rfl⟩
theorem lm_Ma_58 : Cond.methodLink "SendPolicy$Macros" 58 ⟨"java/lang/Math", "max", "(II)I"⟩ ∈ TB := (tb_in 606 (by decide +kernel) rfl)
theorem cv_Ma_64 : CV "SendPolicy$Macros" 64 y_By_addPart b_By_addPart 5 none 3 cBy := ⟨mw_By_addPart, (tb_in 609 (by decide +kernel) rfl), (tb_in 329 (by decide +kernel) rfl), (tb_in 330 (by decide +kernel) rfl), _, rfl, rfl⟩
theorem fws_Se : ∀ w ∈ u_ws R_Se F_Se 5, w ∈ TB := by decide +kernel
theorem ft_Se : FT cSe t_Se := fun C T N h => by
  have h2 : some (R_Se, F_Se, 5) = some (C, T, N) := h
  cases h2
  exact ⟨by decide +kernel, by decide +kernel⟩
theorem fl_Se_29 : FL "SendPolicy$Sender" 29 cSe 4 := ⟨R_Se, F_Se, 5, rfl, fws_Se, (Nat.le_of_ble_eq_true rfl), (tb_in 104 (by decide +kernel) rfl)⟩
theorem fl_Se_23 : FL "SendPolicy$Sender" 23 cSe 2 := ⟨R_Se, F_Se, 5, rfl, fws_Se, (Nat.le_of_ble_eq_true rfl), (tb_in 102 (by decide +kernel) rfl)⟩
theorem lm_Se_3 : Cond.methodLink "SendPolicy$Sender" 3 ⟨"java/lang/Object", "<init>", "()V"⟩ ∈ TB := (tb_in 97 (by decide +kernel) rfl)
theorem kl_Se_9 : Cond.classLink "SendPolicy$Sender" 9 "SendPolicy$Bytes" ∈ TB := (tb_in 98 (by decide +kernel) rfl)
theorem nw_Se_9 : NewW "SendPolicy$Sender" 9 cBy 3 t_By := ⟨R_By, F_By, rfl, ft_By, fws_By, kl_Se_9, (tb_in 58 (by decide +kernel) rfl), (tb_in 31 (by decide +kernel) rfl)⟩
theorem ci_Se_11 : CI "SendPolicy$Sender" 11 y_By_init b_By_init 2 1 := ⟨mw_By_init, (tb_in 99 (by decide +kernel) rfl), (tb_in 60 (by decide +kernel) rfl), rfl⟩
theorem fl_Se_14 : FL "SendPolicy$Sender" 14 cSe 0 := ⟨R_Se, F_Se, 5, rfl, fws_Se, (Nat.le_of_ble_eq_true rfl), (tb_in 100 (by decide +kernel) rfl)⟩
theorem ff_Se_0 : FF "SendPolicy$Sender" cSe 0 := fun C T N h => by
  have h2 : some (R_Se, F_Se, 5) = some (C, T, N) := h
  cases h2
  exact ⟨rfl, rfl⟩
theorem fl_Se_20 : FL "SendPolicy$Sender" 20 cSe 1 := ⟨R_Se, F_Se, 5, rfl, fws_Se, (Nat.le_of_ble_eq_true rfl), (tb_in 101 (by decide +kernel) rfl)⟩
theorem ff_Se_1 : FF "SendPolicy$Sender" cSe 1 := fun C T N h => by
  have h2 : some (R_Se, F_Se, 5) = some (C, T, N) := h
  cases h2
  exact ⟨rfl, rfl⟩
theorem ff_Se_2 : FF "SendPolicy$Sender" cSe 2 := fun C T N h => by
  have h2 : some (R_Se, F_Se, 5) = some (C, T, N) := h
  cases h2
  exact ⟨rfl, rfl⟩
theorem fl_Se_26 : FL "SendPolicy$Sender" 26 cSe 3 := ⟨R_Se, F_Se, 5, rfl, fws_Se, (Nat.le_of_ble_eq_true rfl), (tb_in 103 (by decide +kernel) rfl)⟩
theorem ff_Se_3 : FF "SendPolicy$Sender" cSe 3 := fun C T N h => by
  have h2 : some (R_Se, F_Se, 5) = some (C, T, N) := h
  cases h2
  exact ⟨rfl, rfl⟩
theorem fw_Se_4 : FW cSe 4 := fun C T N h => by
  have h2 : some (R_Se, F_Se, 5) = some (C, T, N) := h
  cases h2
  rfl
theorem cv_Se_33 : CV "SendPolicy$Sender" 33 y_By_size b_By_size 1 (some .int) 0 cBy := ⟨mw_By_size, (tb_in 349 (by decide +kernel) rfl), (tb_in 233 (by decide +kernel) rfl), (tb_in 234 (by decide +kernel) rfl), _, rfl, rfl⟩
set_option maxRecDepth 100000 in
theorem mw_By_cut : MW y_By_cut b_By_cut 2 none 1 := ⟨tb_in 265 rfl rfl, (tb_in 31 (by decide +kernel) rfl), ⟨by decide +kernel, by decide +kernel, by decide +kernel⟩, (Nat.le_of_ble_eq_true rfl)⟩
theorem cv_Se_57 : CV "SendPolicy$Sender" 57 y_By_cut b_By_cut 2 none 1 cBy := ⟨mw_By_cut, (tb_in 358 (by decide +kernel) rfl), (tb_in 263 (by decide +kernel) rfl), (tb_in 264 (by decide +kernel) rfl), _, rfl, rfl⟩
theorem cv_Se_60 : CV "SendPolicy$Sender" 60 y_By_addPart b_By_addPart 5 none 3 cBy := ⟨mw_By_addPart, (tb_in 359 (by decide +kernel) rfl), (tb_in 329 (by decide +kernel) rfl), (tb_in 330 (by decide +kernel) rfl), _, rfl, rfl⟩
theorem cv_Se_37 : CV "SendPolicy$Sender" 37 y_By_find b_By_find 5 (some .int) 3 cBy := ⟨mw_By_find, (tb_in 350 (by decide +kernel) rfl), (tb_in 280 (by decide +kernel) rfl), (tb_in 281 (by decide +kernel) rfl), _, rfl, rfl⟩
set_option maxRecDepth 100000 in
theorem mw_Si_isLocal : MW y_Si_isLocal b_Si_isLocal 5 (some .boolean) 3 := ⟨tb_in 353 rfl rfl, (tb_in 43 (by decide +kernel) rfl), ⟨by decide +kernel, by decide +kernel, by decide +kernel⟩, (Nat.le_of_ble_eq_true rfl)⟩
theorem cs_Se_41 : CS "SendPolicy$Sender" 41 y_Si_isLocal b_Si_isLocal 5 (some .boolean) 3 := ⟨mw_Si_isLocal, (tb_in 351 (by decide +kernel) rfl), (tb_in 352 (by decide +kernel) rfl)⟩
theorem cs_Se_47 : CS "SendPolicy$Sender" 47 y_Si_isName b_Si_isName 6 (some .boolean) 3 := ⟨mw_Si_isName, (tb_in 354 (by decide +kernel) rfl), (tb_in 291 (by decide +kernel) rfl)⟩
set_option maxRecDepth 100000 in
theorem mw_Se_refill : MW y_Se_refill b_Se_refill 4 none 4 := ⟨tb_in 357 rfl rfl, (tb_in 34 (by decide +kernel) rfl), ⟨by decide +kernel, by decide +kernel, by decide +kernel⟩, (Nat.le_of_ble_eq_true rfl)⟩
theorem cs_Se_50 : CS "SendPolicy$Sender" 50 y_Se_refill b_Se_refill 4 none 4 := ⟨mw_Se_refill, (tb_in 355 (by decide +kernel) rfl), (tb_in 356 (by decide +kernel) rfl)⟩
set_option maxRecDepth 100000 in
theorem mw_Se_writeDotted : MW y_Se_writeDotted b_Se_writeDotted 2 none 0 := ⟨tb_in 363 rfl rfl, (tb_in 34 (by decide +kernel) rfl), ⟨by decide +kernel, by decide +kernel, by decide +kernel⟩, (Nat.le_of_ble_eq_true rfl)⟩
theorem cv_Se_54 : CV "SendPolicy$Sender" 54 y_Se_writeDotted b_Se_writeDotted 2 none 0 cSe := ⟨mw_Se_writeDotted, (tb_in 360 (by decide +kernel) rfl), (tb_in 362 (by decide +kernel) rfl), (tb_in 0 (by decide +kernel) rfl), _, rfl, rfl⟩
set_option maxRecDepth 100000 in
theorem mw_By_addNumber : MW y_By_addNumber b_By_addNumber 2 none 1 := ⟨tb_in 367 rfl rfl, (tb_in 31 (by decide +kernel) rfl), ⟨by decide +kernel, by decide +kernel, by decide +kernel⟩, (Nat.le_of_ble_eq_true rfl)⟩
theorem cv_Se_64 : CV "SendPolicy$Sender" 64 y_By_addNumber b_By_addNumber 2 none 1 cBy := ⟨mw_By_addNumber, (tb_in 364 (by decide +kernel) rfl), (tb_in 365 (by decide +kernel) rfl), (tb_in 366 (by decide +kernel) rfl), _, rfl, rfl⟩
theorem cv_Se_67 : CV "SendPolicy$Sender" 67 y_By_add b_By_add 2 none 1 cBy := ⟨mw_By_add, (tb_in 368 (by decide +kernel) rfl), (tb_in 241 (by decide +kernel) rfl), (tb_in 242 (by decide +kernel) rfl), _, rfl, rfl⟩
/-! DECODE ROWS: printed by wip/gen/names.py -/
theorem d_Le_hasRedirect_0 : decode b_Le_hasRedirect 0 = .ok (.aload_n 0, 1) := by decide +kernel
theorem d_Le_hasRedirect_1 : decode b_Le_hasRedirect 1 = .ok (.getfield 31, 3) := by decide +kernel
theorem d_Le_hasRedirect_4 : decode b_Le_hasRedirect 4 = .ok (.ifCond .le 7, 3) := by decide +kernel
theorem d_Le_hasRedirect_7 : decode b_Le_hasRedirect 7 = .ok (.iconst 1, 1) := by decide +kernel
theorem d_Le_hasRedirect_8 : decode b_Le_hasRedirect 8 = .ok (.goto 4, 3) := by decide +kernel
theorem d_Le_hasRedirect_11 : decode b_Le_hasRedirect 11 = .ok (.iconst 0, 1) := by decide +kernel
theorem d_Le_hasRedirect_12 : decode b_Le_hasRedirect 12 = .ok (.ireturn, 1) := by decide +kernel
theorem d_Le_init_0 : decode b_Le_init 0 = .ok (.aload_n 0, 1) := by decide +kernel
theorem d_Le_init_1 : decode b_Le_init 1 = .ok (.invokespecial 3, 3) := by decide +kernel
theorem d_Le_init_4 : decode b_Le_init 4 = .ok (.aload_n 0, 1) := by decide +kernel
theorem d_Le_init_5 : decode b_Le_init 5 = .ok (.new 9, 3) := by decide +kernel
theorem d_Le_init_8 : decode b_Le_init 8 = .ok (.dup, 1) := by decide +kernel
theorem d_Le_init_9 : decode b_Le_init 9 = .ok (.bipush 61, 2) := by decide +kernel
theorem d_Le_init_11 : decode b_Le_init 11 = .ok (.invokespecial 11, 3) := by decide +kernel
theorem d_Le_init_14 : decode b_Le_init 14 = .ok (.putfield 14, 3) := by decide +kernel
theorem d_Le_init_17 : decode b_Le_init 17 = .ok (.aload_n 0, 1) := by decide +kernel
theorem d_Le_init_18 : decode b_Le_init 18 = .ok (.new 20, 3) := by decide +kernel
theorem d_Le_init_21 : decode b_Le_init 21 = .ok (.dup, 1) := by decide +kernel
theorem d_Le_init_22 : decode b_Le_init 22 = .ok (.invokespecial 22, 3) := by decide +kernel
theorem d_Le_init_25 : decode b_Le_init 25 = .ok (.putfield 23, 3) := by decide +kernel
theorem d_Le_init_28 : decode b_Le_init 28 = .ok (.aload_n 0, 1) := by decide +kernel
theorem d_Le_init_29 : decode b_Le_init 29 = .ok (.iconst 0, 1) := by decide +kernel
theorem d_Le_init_30 : decode b_Le_init 30 = .ok (.putfield 27, 3) := by decide +kernel
theorem d_Le_init_33 : decode b_Le_init 33 = .ok (.aload_n 0, 1) := by decide +kernel
theorem d_Le_init_34 : decode b_Le_init 34 = .ok (.iconst 0, 1) := by decide +kernel
theorem d_Le_init_35 : decode b_Le_init 35 = .ok (.putfield 31, 3) := by decide +kernel
theorem d_Le_init_38 : decode b_Le_init 38 = .ok (.return_, 1) := by decide +kernel
theorem d_Le_readTerms_0 : decode b_Le_readTerms 0 = .ok (.aload_n 0, 1) := by decide +kernel
theorem d_Le_readTerms_1 : decode b_Le_readTerms 1 = .ok (.iconst 0, 1) := by decide +kernel
theorem d_Le_readTerms_2 : decode b_Le_readTerms 2 = .ok (.putfield 27, 3) := by decide +kernel
theorem d_Le_readTerms_5 : decode b_Le_readTerms 5 = .ok (.aload_n 0, 1) := by decide +kernel
theorem d_Le_readTerms_6 : decode b_Le_readTerms 6 = .ok (.iconst 0, 1) := by decide +kernel
theorem d_Le_readTerms_7 : decode b_Le_readTerms 7 = .ok (.putfield 31, 3) := by decide +kernel
theorem d_Le_readTerms_10 : decode b_Le_readTerms 10 = .ok (.bipush 7, 2) := by decide +kernel
theorem d_Le_readTerms_12 : decode b_Le_readTerms 12 = .ok (.istore_n 2, 1) := by decide +kernel
theorem d_Le_readTerms_13 : decode b_Le_readTerms 13 = .ok (.iload_n 2, 1) := by decide +kernel
theorem d_Le_readTerms_14 : decode b_Le_readTerms 14 = .ok (.aload_n 1, 1) := by decide +kernel
theorem d_Le_readTerms_15 : decode b_Le_readTerms 15 = .ok (.invokevirtual 34, 3) := by decide +kernel
theorem d_Le_readTerms_18 : decode b_Le_readTerms 18 = .ok (.if_icmp .ge 77, 3) := by decide +kernel
theorem d_Le_readTerms_21 : decode b_Le_readTerms 21 = .ok (.aload_n 1, 1) := by decide +kernel
theorem d_Le_readTerms_22 : decode b_Le_readTerms 22 = .ok (.iload_n 2, 1) := by decide +kernel
theorem d_Le_readTerms_23 : decode b_Le_readTerms 23 = .ok (.invokestatic 38, 3) := by decide +kernel
theorem d_Le_readTerms_26 : decode b_Le_readTerms 26 = .ok (.ifCond .ne 6, 3) := by decide +kernel
theorem d_Le_readTerms_29 : decode b_Le_readTerms 29 = .ok (.goto 60, 3) := by decide +kernel
theorem d_Le_readTerms_32 : decode b_Le_readTerms 32 = .ok (.aload_n 0, 1) := by decide +kernel
theorem d_Le_readTerms_33 : decode b_Le_readTerms 33 = .ok (.getfield 23, 3) := by decide +kernel
theorem d_Le_readTerms_36 : decode b_Le_readTerms 36 = .ok (.aload_n 1, 1) := by decide +kernel
theorem d_Le_readTerms_37 : decode b_Le_readTerms 37 = .ok (.iload_n 2, 1) := by decide +kernel
theorem d_Le_readTerms_38 : decode b_Le_readTerms 38 = .ok (.invokevirtual 42, 3) := by decide +kernel
theorem d_Le_readTerms_41 : decode b_Le_readTerms 41 = .ok (.ifCond .ne 5, 3) := by decide +kernel
theorem d_Le_readTerms_44 : decode b_Le_readTerms 44 = .ok (.iconst 0, 1) := by decide +kernel
theorem d_Le_readTerms_45 : decode b_Le_readTerms 45 = .ok (.ireturn, 1) := by decide +kernel
theorem d_Le_readTerms_46 : decode b_Le_readTerms 46 = .ok (.aload_n 0, 1) := by decide +kernel
theorem d_Le_readTerms_47 : decode b_Le_readTerms 47 = .ok (.getfield 23, 3) := by decide +kernel
theorem d_Le_readTerms_50 : decode b_Le_readTerms 50 = .ok (.invokevirtual 45, 3) := by decide +kernel
theorem d_Le_readTerms_53 : decode b_Le_readTerms 53 = .ok (.bipush 6, 2) := by decide +kernel
theorem d_Le_readTerms_55 : decode b_Le_readTerms 55 = .ok (.if_icmp .ne 34, 3) := by decide +kernel
theorem d_Le_readTerms_58 : decode b_Le_readTerms 58 = .ok (.aload_n 0, 1) := by decide +kernel
theorem d_Le_readTerms_59 : decode b_Le_readTerms 59 = .ok (.invokevirtual 48, 3) := by decide +kernel
theorem d_Le_readTerms_62 : decode b_Le_readTerms 62 = .ok (.ifCond .eq 5, 3) := by decide +kernel
theorem d_Le_readTerms_65 : decode b_Le_readTerms 65 = .ok (.iconst 0, 1) := by decide +kernel
theorem d_Le_readTerms_66 : decode b_Le_readTerms 66 = .ok (.ireturn, 1) := by decide +kernel
theorem d_Le_readTerms_67 : decode b_Le_readTerms 67 = .ok (.aload_n 0, 1) := by decide +kernel
theorem d_Le_readTerms_68 : decode b_Le_readTerms 68 = .ok (.aload_n 0, 1) := by decide +kernel
theorem d_Le_readTerms_69 : decode b_Le_readTerms 69 = .ok (.getfield 23, 3) := by decide +kernel
theorem d_Le_readTerms_72 : decode b_Le_readTerms 72 = .ok (.invokevirtual 52, 3) := by decide +kernel
theorem d_Le_readTerms_75 : decode b_Le_readTerms 75 = .ok (.putfield 27, 3) := by decide +kernel
theorem d_Le_readTerms_78 : decode b_Le_readTerms 78 = .ok (.aload_n 0, 1) := by decide +kernel
theorem d_Le_readTerms_79 : decode b_Le_readTerms 79 = .ok (.aload_n 0, 1) := by decide +kernel
theorem d_Le_readTerms_80 : decode b_Le_readTerms 80 = .ok (.getfield 23, 3) := by decide +kernel
theorem d_Le_readTerms_83 : decode b_Le_readTerms 83 = .ok (.invokevirtual 55, 3) := by decide +kernel
theorem d_Le_readTerms_86 : decode b_Le_readTerms 86 = .ok (.putfield 31, 3) := by decide +kernel
theorem d_Le_readTerms_89 : decode b_Le_readTerms 89 = .ok (.iinc 2 1, 3) := by decide +kernel
theorem d_Le_readTerms_92 : decode b_Le_readTerms 92 = .ok (.goto (-79), 3) := by decide +kernel
theorem d_Le_readTerms_95 : decode b_Le_readTerms 95 = .ok (.iconst 1, 1) := by decide +kernel
theorem d_Le_readTerms_96 : decode b_Le_readTerms 96 = .ok (.ireturn, 1) := by decide +kernel
theorem d_Le_redirectFrom_0 : decode b_Le_redirectFrom 0 = .ok (.aload_n 0, 1) := by decide +kernel
theorem d_Le_redirectFrom_1 : decode b_Le_redirectFrom 1 = .ok (.getfield 27, 3) := by decide +kernel
theorem d_Le_redirectFrom_4 : decode b_Le_redirectFrom 4 = .ok (.ireturn, 1) := by decide +kernel
theorem d_Le_redirectTo_0 : decode b_Le_redirectTo 0 = .ok (.aload_n 0, 1) := by decide +kernel
theorem d_Le_redirectTo_1 : decode b_Le_redirectTo 1 = .ok (.getfield 31, 3) := by decide +kernel
theorem d_Le_redirectTo_4 : decode b_Le_redirectTo 4 = .ok (.ireturn, 1) := by decide +kernel
theorem d_Ma_init_0 : decode b_Ma_init 0 = .ok (.aload_n 0, 1) := by decide +kernel
theorem d_Ma_init_1 : decode b_Ma_init 1 = .ok (.invokespecial 3, 3) := by decide +kernel
theorem d_Ma_init_4 : decode b_Ma_init 4 = .ok (.aload_n 0, 1) := by decide +kernel
theorem d_Ma_init_5 : decode b_Ma_init 5 = .ok (.aload_n 1, 1) := by decide +kernel
theorem d_Ma_init_6 : decode b_Ma_init 6 = .ok (.putfield 9, 3) := by decide +kernel
theorem d_Ma_init_9 : decode b_Ma_init 9 = .ok (.aload_n 0, 1) := by decide +kernel
theorem d_Ma_init_10 : decode b_Ma_init 10 = .ok (.bipush 93, 2) := by decide +kernel
theorem d_Ma_init_12 : decode b_Ma_init 12 = .ok (.newarray .int, 2) := by decide +kernel
theorem d_Ma_init_14 : decode b_Ma_init 14 = .ok (.putfield 15, 3) := by decide +kernel
theorem d_Ma_init_17 : decode b_Ma_init 17 = .ok (.return_, 1) := by decide +kernel
theorem d_Ma_write_0 : decode b_Ma_write 0 = .ok (.iload_n 2, 1) := by decide +kernel
theorem d_Ma_write_1 : decode b_Ma_write 1 = .ok (.istore 6, 2) := by decide +kernel
theorem d_Ma_write_3 : decode b_Ma_write 3 = .ok (.iload 6, 2) := by decide +kernel
theorem d_Ma_write_5 : decode b_Ma_write 5 = .ok (.iload_n 3, 1) := by decide +kernel
theorem d_Ma_write_6 : decode b_Ma_write 6 = .ok (.if_icmp .ge 177, 3) := by decide +kernel
theorem d_Ma_write_9 : decode b_Ma_write 9 = .ok (.aload_n 1, 1) := by decide +kernel
theorem d_Ma_write_10 : decode b_Ma_write 10 = .ok (.iload 6, 2) := by decide +kernel
theorem d_Ma_write_12 : decode b_Ma_write 12 = .ok (.invokevirtual 19, 3) := by decide +kernel
theorem d_Ma_write_15 : decode b_Ma_write 15 = .ok (.istore 7, 2) := by decide +kernel
theorem d_Ma_write_17 : decode b_Ma_write 17 = .ok (.iload 7, 2) := by decide +kernel
theorem d_Ma_write_19 : decode b_Ma_write 19 = .ok (.bipush 37, 2) := by decide +kernel
theorem d_Ma_write_21 : decode b_Ma_write 21 = .ok (.if_icmp .ne 13, 3) := by decide +kernel
theorem d_Ma_write_24 : decode b_Ma_write 24 = .ok (.aload_n 1, 1) := by decide +kernel
theorem d_Ma_write_25 : decode b_Ma_write 25 = .ok (.iload 6, 2) := by decide +kernel
theorem d_Ma_write_27 : decode b_Ma_write 27 = .ok (.iload_n 3, 1) := by decide +kernel
theorem d_Ma_write_28 : decode b_Ma_write 28 = .ok (.invokestatic 25, 3) := by decide +kernel
theorem d_Ma_write_31 : decode b_Ma_write 31 = .ok (.goto 4, 3) := by decide +kernel
theorem d_Ma_write_34 : decode b_Ma_write 34 = .ok (.iconst 0, 1) := by decide +kernel
theorem d_Ma_write_35 : decode b_Ma_write 35 = .ok (.istore 8, 2) := by decide +kernel
theorem d_Ma_write_37 : decode b_Ma_write 37 = .ok (.iload 8, 2) := by decide +kernel
theorem d_Ma_write_39 : decode b_Ma_write 39 = .ok (.ifCond .ne 13, 3) := by decide +kernel
theorem d_Ma_write_42 : decode b_Ma_write 42 = .ok (.aload 5, 2) := by decide +kernel
theorem d_Ma_write_44 : decode b_Ma_write 44 = .ok (.iload 7, 2) := by decide +kernel
theorem d_Ma_write_46 : decode b_Ma_write 46 = .ok (.invokevirtual 36, 3) := by decide +kernel
theorem d_Ma_write_49 : decode b_Ma_write 49 = .ok (.goto 128, 3) := by decide +kernel
theorem d_Ma_write_52 : decode b_Ma_write 52 = .ok (.iload 8, 2) := by decide +kernel
theorem d_Ma_write_54 : decode b_Ma_write 54 = .ok (.iconst 2, 1) := by decide +kernel
theorem d_Ma_write_55 : decode b_Ma_write 55 = .ok (.if_icmp .ne 22, 3) := by decide +kernel
theorem d_Ma_write_58 : decode b_Ma_write 58 = .ok (.aload_n 1, 1) := by decide +kernel
theorem d_Ma_write_59 : decode b_Ma_write 59 = .ok (.iload 6, 2) := by decide +kernel
theorem d_Ma_write_61 : decode b_Ma_write 61 = .ok (.iconst 1, 1) := by decide +kernel
theorem d_Ma_write_62 : decode b_Ma_write 62 = .ok (.iadd, 1) := by decide +kernel
theorem d_Ma_write_63 : decode b_Ma_write 63 = .ok (.invokevirtual 19, 3) := by decide +kernel
theorem d_Ma_write_66 : decode b_Ma_write 66 = .ok (.aload 5, 2) := by decide +kernel
theorem d_Ma_write_68 : decode b_Ma_write 68 = .ok (.invokestatic 40, 3) := by decide +kernel
theorem d_Ma_write_71 : decode b_Ma_write 71 = .ok (.iinc 6 1, 3) := by decide +kernel
theorem d_Ma_write_74 : decode b_Ma_write 74 = .ok (.goto 103, 3) := by decide +kernel
theorem d_Ma_write_77 : decode b_Ma_write 77 = .ok (.aload_n 1, 1) := by decide +kernel
theorem d_Ma_write_78 : decode b_Ma_write 78 = .ok (.iload 6, 2) := by decide +kernel
theorem d_Ma_write_80 : decode b_Ma_write 80 = .ok (.iconst 3, 1) := by decide +kernel
theorem d_Ma_write_81 : decode b_Ma_write 81 = .ok (.iadd, 1) := by decide +kernel
theorem d_Ma_write_82 : decode b_Ma_write 82 = .ok (.invokevirtual 19, 3) := by decide +kernel
theorem d_Ma_write_85 : decode b_Ma_write 85 = .ok (.invokestatic 33, 3) := by decide +kernel
theorem d_Ma_write_88 : decode b_Ma_write 88 = .ok (.istore 9, 2) := by decide +kernel
theorem d_Ma_write_90 : decode b_Ma_write 90 = .ok (.aload_n 1, 1) := by decide +kernel
theorem d_Ma_write_91 : decode b_Ma_write 91 = .ok (.iload 6, 2) := by decide +kernel
theorem d_Ma_write_93 : decode b_Ma_write 93 = .ok (.iload 8, 2) := by decide +kernel
theorem d_Ma_write_95 : decode b_Ma_write 95 = .ok (.iadd, 1) := by decide +kernel
theorem d_Ma_write_96 : decode b_Ma_write 96 = .ok (.iconst 2, 1) := by decide +kernel
theorem d_Ma_write_97 : decode b_Ma_write 97 = .ok (.isub, 1) := by decide +kernel
theorem d_Ma_write_98 : decode b_Ma_write 98 = .ok (.invokevirtual 19, 3) := by decide +kernel
theorem d_Ma_write_101 : decode b_Ma_write 101 = .ok (.bipush 114, 2) := by decide +kernel
theorem d_Ma_write_103 : decode b_Ma_write 103 = .ok (.if_icmp .ne 7, 3) := by decide +kernel
theorem d_Ma_write_106 : decode b_Ma_write 106 = .ok (.iconst 1, 1) := by decide +kernel
theorem d_Ma_write_107 : decode b_Ma_write 107 = .ok (.goto 4, 3) := by decide +kernel
theorem d_Ma_write_110 : decode b_Ma_write 110 = .ok (.iconst 0, 1) := by decide +kernel
theorem d_Ma_write_111 : decode b_Ma_write 111 = .ok (.istore 10, 2) := by decide +kernel
theorem d_Ma_write_113 : decode b_Ma_write 113 = .ok (.aload_n 0, 1) := by decide +kernel
theorem d_Ma_write_114 : decode b_Ma_write 114 = .ok (.getfield 9, 3) := by decide +kernel
theorem d_Ma_write_117 : decode b_Ma_write 117 = .ok (.aload_n 1, 1) := by decide +kernel
theorem d_Ma_write_118 : decode b_Ma_write 118 = .ok (.iload 6, 2) := by decide +kernel
theorem d_Ma_write_120 : decode b_Ma_write 120 = .ok (.iconst 2, 1) := by decide +kernel
theorem d_Ma_write_121 : decode b_Ma_write 121 = .ok (.iadd, 1) := by decide +kernel
theorem d_Ma_write_122 : decode b_Ma_write 122 = .ok (.invokevirtual 19, 3) := by decide +kernel
theorem d_Ma_write_125 : decode b_Ma_write 125 = .ok (.aload 4, 2) := by decide +kernel
theorem d_Ma_write_127 : decode b_Ma_write 127 = .ok (.invokevirtual 44, 3) := by decide +kernel
theorem d_Ma_write_130 : decode b_Ma_write 130 = .ok (.astore 11, 2) := by decide +kernel
theorem d_Ma_write_132 : decode b_Ma_write 132 = .ok (.aload_n 0, 1) := by decide +kernel
theorem d_Ma_write_133 : decode b_Ma_write 133 = .ok (.aload 11, 2) := by decide +kernel
theorem d_Ma_write_135 : decode b_Ma_write 135 = .ok (.iload 9, 2) := by decide +kernel
theorem d_Ma_write_137 : decode b_Ma_write 137 = .ok (.ifCond .eq 17, 3) := by decide +kernel
theorem d_Ma_write_140 : decode b_Ma_write 140 = .ok (.aload_n 1, 1) := by decide +kernel
theorem d_Ma_write_141 : decode b_Ma_write 141 = .ok (.iload 6, 2) := by decide +kernel
theorem d_Ma_write_143 : decode b_Ma_write 143 = .ok (.iconst 3, 1) := by decide +kernel
theorem d_Ma_write_144 : decode b_Ma_write 144 = .ok (.iadd, 1) := by decide +kernel
theorem d_Ma_write_145 : decode b_Ma_write 145 = .ok (.invokevirtual 19, 3) := by decide +kernel
theorem d_Ma_write_148 : decode b_Ma_write 148 = .ok (.bipush 48, 2) := by decide +kernel
theorem d_Ma_write_150 : decode b_Ma_write 150 = .ok (.isub, 1) := by decide +kernel
theorem d_Ma_write_151 : decode b_Ma_write 151 = .ok (.goto 10, 3) := by decide +kernel
theorem d_Ma_write_154 : decode b_Ma_write 154 = .ok (.aload 11, 2) := by decide +kernel
theorem d_Ma_write_156 : decode b_Ma_write 156 = .ok (.invokevirtual 50, 3) := by decide +kernel
theorem d_Ma_write_159 : decode b_Ma_write 159 = .ok (.iconst 1, 1) := by decide +kernel
theorem d_Ma_write_160 : decode b_Ma_write 160 = .ok (.iadd, 1) := by decide +kernel
theorem d_Ma_write_161 : decode b_Ma_write 161 = .ok (.iload 10, 2) := by decide +kernel
theorem d_Ma_write_163 : decode b_Ma_write 163 = .ok (.aload 5, 2) := by decide +kernel
theorem d_Ma_write_165 : decode b_Ma_write 165 = .ok (.invokevirtual 54, 3) := by decide +kernel
theorem d_Ma_write_168 : decode b_Ma_write 168 = .ok (.iload 6, 2) := by decide +kernel
theorem d_Ma_write_170 : decode b_Ma_write 170 = .ok (.iload 8, 2) := by decide +kernel
theorem d_Ma_write_172 : decode b_Ma_write 172 = .ok (.iconst 1, 1) := by decide +kernel
theorem d_Ma_write_173 : decode b_Ma_write 173 = .ok (.isub, 1) := by decide +kernel
theorem d_Ma_write_174 : decode b_Ma_write 174 = .ok (.iadd, 1) := by decide +kernel
theorem d_Ma_write_175 : decode b_Ma_write 175 = .ok (.istore 6, 2) := by decide +kernel
theorem d_Ma_write_177 : decode b_Ma_write 177 = .ok (.iinc 6 1, 3) := by decide +kernel
theorem d_Ma_write_180 : decode b_Ma_write 180 = .ok (.goto (-177), 3) := by decide +kernel
theorem d_Ma_write_183 : decode b_Ma_write 183 = .ok (.return_, 1) := by decide +kernel
theorem d_Ma_writeParts_0 : decode b_Ma_writeParts 0 = .ok (.iconst 0, 1) := by decide +kernel
theorem d_Ma_writeParts_1 : decode b_Ma_writeParts 1 = .ok (.istore 5, 2) := by decide +kernel
theorem d_Ma_writeParts_3 : decode b_Ma_writeParts 3 = .ok (.aload_n 0, 1) := by decide +kernel
theorem d_Ma_writeParts_4 : decode b_Ma_writeParts 4 = .ok (.getfield 15, 3) := by decide +kernel
theorem d_Ma_writeParts_7 : decode b_Ma_writeParts 7 = .ok (.iconst 0, 1) := by decide +kernel
theorem d_Ma_writeParts_8 : decode b_Ma_writeParts 8 = .ok (.iconst 0, 1) := by decide +kernel
theorem d_Ma_writeParts_9 : decode b_Ma_writeParts 9 = .ok (.iastore, 1) := by decide +kernel
theorem d_Ma_writeParts_10 : decode b_Ma_writeParts 10 = .ok (.iconst 0, 1) := by decide +kernel
theorem d_Ma_writeParts_11 : decode b_Ma_writeParts 11 = .ok (.istore 6, 2) := by decide +kernel
theorem d_Ma_writeParts_13 : decode b_Ma_writeParts 13 = .ok (.iload 6, 2) := by decide +kernel
theorem d_Ma_writeParts_15 : decode b_Ma_writeParts 15 = .ok (.aload_n 1, 1) := by decide +kernel
theorem d_Ma_writeParts_16 : decode b_Ma_writeParts 16 = .ok (.invokevirtual 50, 3) := by decide +kernel
theorem d_Ma_writeParts_19 : decode b_Ma_writeParts 19 = .ok (.if_icmp .gt 55, 3) := by decide +kernel
theorem d_Ma_writeParts_22 : decode b_Ma_writeParts 22 = .ok (.iload 5, 2) := by decide +kernel
theorem d_Ma_writeParts_24 : decode b_Ma_writeParts 24 = .ok (.iconst 1, 1) := by decide +kernel
theorem d_Ma_writeParts_25 : decode b_Ma_writeParts 25 = .ok (.iadd, 1) := by decide +kernel
theorem d_Ma_writeParts_26 : decode b_Ma_writeParts 26 = .ok (.aload_n 0, 1) := by decide +kernel
theorem d_Ma_writeParts_27 : decode b_Ma_writeParts 27 = .ok (.getfield 15, 3) := by decide +kernel
theorem d_Ma_writeParts_30 : decode b_Ma_writeParts 30 = .ok (.arraylength, 1) := by decide +kernel
theorem d_Ma_writeParts_31 : decode b_Ma_writeParts 31 = .ok (.if_icmp .ge 43, 3) := by decide +kernel
theorem d_Ma_writeParts_34 : decode b_Ma_writeParts 34 = .ok (.iload 6, 2) := by decide +kernel
theorem d_Ma_writeParts_36 : decode b_Ma_writeParts 36 = .ok (.aload_n 1, 1) := by decide +kernel
theorem d_Ma_writeParts_37 : decode b_Ma_writeParts 37 = .ok (.invokevirtual 50, 3) := by decide +kernel
theorem d_Ma_writeParts_40 : decode b_Ma_writeParts 40 = .ok (.if_icmp .eq 14, 3) := by decide +kernel
theorem d_Ma_writeParts_43 : decode b_Ma_writeParts 43 = .ok (.aload_n 1, 1) := by decide +kernel
theorem d_Ma_writeParts_44 : decode b_Ma_writeParts 44 = .ok (.iload 6, 2) := by decide +kernel
theorem d_Ma_writeParts_46 : decode b_Ma_writeParts 46 = .ok (.invokevirtual 19, 3) := by decide +kernel
theorem d_Ma_writeParts_49 : decode b_Ma_writeParts 49 = .ok (.bipush 46, 2) := by decide +kernel
theorem d_Ma_writeParts_51 : decode b_Ma_writeParts 51 = .ok (.if_icmp .ne 17, 3) := by decide +kernel
theorem d_Ma_writeParts_54 : decode b_Ma_writeParts 54 = .ok (.iinc 5 1, 3) := by decide +kernel
theorem d_Ma_writeParts_57 : decode b_Ma_writeParts 57 = .ok (.aload_n 0, 1) := by decide +kernel
theorem d_Ma_writeParts_58 : decode b_Ma_writeParts 58 = .ok (.getfield 15, 3) := by decide +kernel
theorem d_Ma_writeParts_61 : decode b_Ma_writeParts 61 = .ok (.iload 5, 2) := by decide +kernel
theorem d_Ma_writeParts_63 : decode b_Ma_writeParts 63 = .ok (.iload 6, 2) := by decide +kernel
theorem d_Ma_writeParts_65 : decode b_Ma_writeParts 65 = .ok (.iconst 1, 1) := by decide +kernel
theorem d_Ma_writeParts_66 : decode b_Ma_writeParts 66 = .ok (.iadd, 1) := by decide +kernel
theorem d_Ma_writeParts_67 : decode b_Ma_writeParts 67 = .ok (.iastore, 1) := by decide +kernel
theorem d_Ma_writeParts_68 : decode b_Ma_writeParts 68 = .ok (.iinc 6 1, 3) := by decide +kernel
theorem d_Ma_writeParts_71 : decode b_Ma_writeParts 71 = .ok (.goto (-58), 3) := by decide +kernel
theorem d_Ma_writeParts_74 : decode b_Ma_writeParts 74 = .ok (.iconst 0, 1) := by decide +kernel
theorem d_Ma_writeParts_75 : decode b_Ma_writeParts 75 = .ok (.iload 5, 2) := by decide +kernel
theorem d_Ma_writeParts_77 : decode b_Ma_writeParts 77 = .ok (.iload_n 2, 1) := by decide +kernel
theorem d_Ma_writeParts_78 : decode b_Ma_writeParts 78 = .ok (.isub, 1) := by decide +kernel
theorem d_Ma_writeParts_79 : decode b_Ma_writeParts 79 = .ok (.invokestatic 58, 3) := by decide +kernel
theorem d_Ma_writeParts_82 : decode b_Ma_writeParts 82 = .ok (.istore 6, 2) := by decide +kernel
theorem d_Ma_writeParts_84 : decode b_Ma_writeParts 84 = .ok (.iload 6, 2) := by decide +kernel
theorem d_Ma_writeParts_86 : decode b_Ma_writeParts 86 = .ok (.istore 7, 2) := by decide +kernel
theorem d_Ma_writeParts_88 : decode b_Ma_writeParts 88 = .ok (.iload 7, 2) := by decide +kernel
theorem d_Ma_writeParts_90 : decode b_Ma_writeParts 90 = .ok (.iload 5, 2) := by decide +kernel
theorem d_Ma_writeParts_92 : decode b_Ma_writeParts 92 = .ok (.if_icmp .ge 65, 3) := by decide +kernel
theorem d_Ma_writeParts_95 : decode b_Ma_writeParts 95 = .ok (.iload_n 3, 1) := by decide +kernel
theorem d_Ma_writeParts_96 : decode b_Ma_writeParts 96 = .ok (.ifCond .eq 13, 3) := by decide +kernel
theorem d_Ma_writeParts_99 : decode b_Ma_writeParts 99 = .ok (.iload 5, 2) := by decide +kernel
theorem d_Ma_writeParts_101 : decode b_Ma_writeParts 101 = .ok (.iconst 1, 1) := by decide +kernel
theorem d_Ma_writeParts_102 : decode b_Ma_writeParts 102 = .ok (.isub, 1) := by decide +kernel
theorem d_Ma_writeParts_103 : decode b_Ma_writeParts 103 = .ok (.iload 7, 2) := by decide +kernel
theorem d_Ma_writeParts_105 : decode b_Ma_writeParts 105 = .ok (.isub, 1) := by decide +kernel
theorem d_Ma_writeParts_106 : decode b_Ma_writeParts 106 = .ok (.goto 5, 3) := by decide +kernel
theorem d_Ma_writeParts_109 : decode b_Ma_writeParts 109 = .ok (.iload 7, 2) := by decide +kernel
theorem d_Ma_writeParts_111 : decode b_Ma_writeParts 111 = .ok (.istore 8, 2) := by decide +kernel
theorem d_Ma_writeParts_113 : decode b_Ma_writeParts 113 = .ok (.iload 7, 2) := by decide +kernel
theorem d_Ma_writeParts_115 : decode b_Ma_writeParts 115 = .ok (.iload 6, 2) := by decide +kernel
theorem d_Ma_writeParts_117 : decode b_Ma_writeParts 117 = .ok (.if_icmp .le 10, 3) := by decide +kernel
theorem d_Ma_writeParts_120 : decode b_Ma_writeParts 120 = .ok (.aload 4, 2) := by decide +kernel
theorem d_Ma_writeParts_122 : decode b_Ma_writeParts 122 = .ok (.bipush 46, 2) := by decide +kernel
theorem d_Ma_writeParts_124 : decode b_Ma_writeParts 124 = .ok (.invokevirtual 36, 3) := by decide +kernel
theorem d_Ma_writeParts_127 : decode b_Ma_writeParts 127 = .ok (.aload 4, 2) := by decide +kernel
theorem d_Ma_writeParts_129 : decode b_Ma_writeParts 129 = .ok (.aload_n 1, 1) := by decide +kernel
theorem d_Ma_writeParts_130 : decode b_Ma_writeParts 130 = .ok (.aload_n 0, 1) := by decide +kernel
theorem d_Ma_writeParts_131 : decode b_Ma_writeParts 131 = .ok (.getfield 15, 3) := by decide +kernel
theorem d_Ma_writeParts_134 : decode b_Ma_writeParts 134 = .ok (.iload 8, 2) := by decide +kernel
theorem d_Ma_writeParts_136 : decode b_Ma_writeParts 136 = .ok (.iaload, 1) := by decide +kernel
theorem d_Ma_writeParts_137 : decode b_Ma_writeParts 137 = .ok (.aload_n 0, 1) := by decide +kernel
theorem d_Ma_writeParts_138 : decode b_Ma_writeParts 138 = .ok (.getfield 15, 3) := by decide +kernel
theorem d_Ma_writeParts_141 : decode b_Ma_writeParts 141 = .ok (.iload 8, 2) := by decide +kernel
theorem d_Ma_writeParts_143 : decode b_Ma_writeParts 143 = .ok (.iconst 1, 1) := by decide +kernel
theorem d_Ma_writeParts_144 : decode b_Ma_writeParts 144 = .ok (.iadd, 1) := by decide +kernel
theorem d_Ma_writeParts_145 : decode b_Ma_writeParts 145 = .ok (.iaload, 1) := by decide +kernel
theorem d_Ma_writeParts_146 : decode b_Ma_writeParts 146 = .ok (.iconst 1, 1) := by decide +kernel
theorem d_Ma_writeParts_147 : decode b_Ma_writeParts 147 = .ok (.isub, 1) := by decide +kernel
theorem d_Ma_writeParts_148 : decode b_Ma_writeParts 148 = .ok (.invokevirtual 64, 3) := by decide +kernel
theorem d_Ma_writeParts_151 : decode b_Ma_writeParts 151 = .ok (.iinc 7 1, 3) := by decide +kernel
theorem d_Ma_writeParts_154 : decode b_Ma_writeParts 154 = .ok (.goto (-66), 3) := by decide +kernel
theorem d_Ma_writeParts_157 : decode b_Ma_writeParts 157 = .ok (.return_, 1) := by decide +kernel
theorem d_Ma_writeSign_0 : decode b_Ma_writeSign 0 = .ok (.iload_n 0, 1) := by decide +kernel
theorem d_Ma_writeSign_1 : decode b_Ma_writeSign 1 = .ok (.bipush 37, 2) := by decide +kernel
theorem d_Ma_writeSign_3 : decode b_Ma_writeSign 3 = .ok (.if_icmp .ne 12, 3) := by decide +kernel
theorem d_Ma_writeSign_6 : decode b_Ma_writeSign 6 = .ok (.aload_n 1, 1) := by decide +kernel
theorem d_Ma_writeSign_7 : decode b_Ma_writeSign 7 = .ok (.bipush 37, 2) := by decide +kernel
theorem d_Ma_writeSign_9 : decode b_Ma_writeSign 9 = .ok (.invokevirtual 36, 3) := by decide +kernel
theorem d_Ma_writeSign_12 : decode b_Ma_writeSign 12 = .ok (.goto 36, 3) := by decide +kernel
theorem d_Ma_writeSign_15 : decode b_Ma_writeSign 15 = .ok (.iload_n 0, 1) := by decide +kernel
theorem d_Ma_writeSign_16 : decode b_Ma_writeSign 16 = .ok (.bipush 95, 2) := by decide +kernel
theorem d_Ma_writeSign_18 : decode b_Ma_writeSign 18 = .ok (.if_icmp .ne 12, 3) := by decide +kernel
theorem d_Ma_writeSign_21 : decode b_Ma_writeSign 21 = .ok (.aload_n 1, 1) := by decide +kernel
theorem d_Ma_writeSign_22 : decode b_Ma_writeSign 22 = .ok (.bipush 32, 2) := by decide +kernel
theorem d_Ma_writeSign_24 : decode b_Ma_writeSign 24 = .ok (.invokevirtual 36, 3) := by decide +kernel
theorem d_Ma_writeSign_27 : decode b_Ma_writeSign 27 = .ok (.goto 21, 3) := by decide +kernel
theorem d_Ma_writeSign_30 : decode b_Ma_writeSign 30 = .ok (.aload_n 1, 1) := by decide +kernel
theorem d_Ma_writeSign_31 : decode b_Ma_writeSign 31 = .ok (.bipush 37, 2) := by decide +kernel
theorem d_Ma_writeSign_33 : decode b_Ma_writeSign 33 = .ok (.invokevirtual 36, 3) := by decide +kernel
theorem d_Ma_writeSign_36 : decode b_Ma_writeSign 36 = .ok (.aload_n 1, 1) := by decide +kernel
theorem d_Ma_writeSign_37 : decode b_Ma_writeSign 37 = .ok (.bipush 50, 2) := by decide +kernel
theorem d_Ma_writeSign_39 : decode b_Ma_writeSign 39 = .ok (.invokevirtual 36, 3) := by decide +kernel
theorem d_Ma_writeSign_42 : decode b_Ma_writeSign 42 = .ok (.aload_n 1, 1) := by decide +kernel
theorem d_Ma_writeSign_43 : decode b_Ma_writeSign 43 = .ok (.bipush 48, 2) := by decide +kernel
theorem d_Ma_writeSign_45 : decode b_Ma_writeSign 45 = .ok (.invokevirtual 36, 3) := by decide +kernel
theorem d_Ma_writeSign_48 : decode b_Ma_writeSign 48 = .ok (.return_, 1) := by decide +kernel
theorem d_Se_address_0 : decode b_Se_address 0 = .ok (.aload_n 0, 1) := by decide +kernel
theorem d_Se_address_1 : decode b_Se_address 1 = .ok (.getfield 29, 3) := by decide +kernel
theorem d_Se_address_4 : decode b_Se_address 4 = .ok (.ireturn, 1) := by decide +kernel
theorem d_Se_domain_0 : decode b_Se_domain 0 = .ok (.aload_n 0, 1) := by decide +kernel
theorem d_Se_domain_1 : decode b_Se_domain 1 = .ok (.getfield 23, 3) := by decide +kernel
theorem d_Se_domain_4 : decode b_Se_domain 4 = .ok (.areturn, 1) := by decide +kernel
theorem d_Se_init_0 : decode b_Se_init 0 = .ok (.aload_n 0, 1) := by decide +kernel
theorem d_Se_init_1 : decode b_Se_init 1 = .ok (.invokespecial 3, 3) := by decide +kernel
theorem d_Se_init_4 : decode b_Se_init 4 = .ok (.aload_n 0, 1) := by decide +kernel
theorem d_Se_init_5 : decode b_Se_init 5 = .ok (.new 9, 3) := by decide +kernel
theorem d_Se_init_8 : decode b_Se_init 8 = .ok (.dup, 1) := by decide +kernel
theorem d_Se_init_9 : decode b_Se_init 9 = .ok (.bipush 91, 2) := by decide +kernel
theorem d_Se_init_11 : decode b_Se_init 11 = .ok (.invokespecial 11, 3) := by decide +kernel
theorem d_Se_init_14 : decode b_Se_init 14 = .ok (.putfield 14, 3) := by decide +kernel
theorem d_Se_init_17 : decode b_Se_init 17 = .ok (.aload_n 0, 1) := by decide +kernel
theorem d_Se_init_18 : decode b_Se_init 18 = .ok (.new 9, 3) := by decide +kernel
theorem d_Se_init_21 : decode b_Se_init 21 = .ok (.dup, 1) := by decide +kernel
theorem d_Se_init_22 : decode b_Se_init 22 = .ok (.bipush 30, 2) := by decide +kernel
theorem d_Se_init_24 : decode b_Se_init 24 = .ok (.invokespecial 11, 3) := by decide +kernel
theorem d_Se_init_27 : decode b_Se_init 27 = .ok (.putfield 20, 3) := by decide +kernel
theorem d_Se_init_30 : decode b_Se_init 30 = .ok (.aload_n 0, 1) := by decide +kernel
theorem d_Se_init_31 : decode b_Se_init 31 = .ok (.new 9, 3) := by decide +kernel
theorem d_Se_init_34 : decode b_Se_init 34 = .ok (.dup, 1) := by decide +kernel
theorem d_Se_init_35 : decode b_Se_init 35 = .ok (.bipush 60, 2) := by decide +kernel
theorem d_Se_init_37 : decode b_Se_init 37 = .ok (.invokespecial 11, 3) := by decide +kernel
theorem d_Se_init_40 : decode b_Se_init 40 = .ok (.putfield 23, 3) := by decide +kernel
theorem d_Se_init_43 : decode b_Se_init 43 = .ok (.aload_n 0, 1) := by decide +kernel
theorem d_Se_init_44 : decode b_Se_init 44 = .ok (.new 9, 3) := by decide +kernel
theorem d_Se_init_47 : decode b_Se_init 47 = .ok (.dup, 1) := by decide +kernel
theorem d_Se_init_48 : decode b_Se_init 48 = .ok (.bipush 15, 2) := by decide +kernel
theorem d_Se_init_50 : decode b_Se_init 50 = .ok (.invokespecial 11, 3) := by decide +kernel
theorem d_Se_init_53 : decode b_Se_init 53 = .ok (.putfield 26, 3) := by decide +kernel
theorem d_Se_init_56 : decode b_Se_init 56 = .ok (.aload_n 0, 1) := by decide +kernel
theorem d_Se_init_57 : decode b_Se_init 57 = .ok (.iconst 0, 1) := by decide +kernel
theorem d_Se_init_58 : decode b_Se_init 58 = .ok (.putfield 29, 3) := by decide +kernel
theorem d_Se_init_61 : decode b_Se_init 61 = .ok (.return_, 1) := by decide +kernel
theorem d_Se_isKnown_0 : decode b_Se_isKnown 0 = .ok (.aload_n 0, 1) := by decide +kernel
theorem d_Se_isKnown_1 : decode b_Se_isKnown 1 = .ok (.getfield 14, 3) := by decide +kernel
theorem d_Se_isKnown_4 : decode b_Se_isKnown 4 = .ok (.invokevirtual 33, 3) := by decide +kernel
theorem d_Se_isKnown_7 : decode b_Se_isKnown 7 = .ok (.ifCond .le 7, 3) := by decide +kernel
theorem d_Se_isKnown_10 : decode b_Se_isKnown 10 = .ok (.iconst 1, 1) := by decide +kernel
theorem d_Se_isKnown_11 : decode b_Se_isKnown 11 = .ok (.goto 4, 3) := by decide +kernel
theorem d_Se_isKnown_14 : decode b_Se_isKnown 14 = .ok (.iconst 0, 1) := by decide +kernel
theorem d_Se_isKnown_15 : decode b_Se_isKnown 15 = .ok (.ireturn, 1) := by decide +kernel
theorem d_Se_refill_0 : decode b_Se_refill 0 = .ok (.aload_n 0, 1) := by decide +kernel
theorem d_Se_refill_1 : decode b_Se_refill 1 = .ok (.iconst 0, 1) := by decide +kernel
theorem d_Se_refill_2 : decode b_Se_refill 2 = .ok (.invokevirtual 57, 3) := by decide +kernel
theorem d_Se_refill_5 : decode b_Se_refill 5 = .ok (.aload_n 0, 1) := by decide +kernel
theorem d_Se_refill_6 : decode b_Se_refill 6 = .ok (.aload_n 1, 1) := by decide +kernel
theorem d_Se_refill_7 : decode b_Se_refill 7 = .ok (.iload_n 2, 1) := by decide +kernel
theorem d_Se_refill_8 : decode b_Se_refill 8 = .ok (.iload_n 3, 1) := by decide +kernel
theorem d_Se_refill_9 : decode b_Se_refill 9 = .ok (.invokevirtual 60, 3) := by decide +kernel
theorem d_Se_refill_12 : decode b_Se_refill 12 = .ok (.return_, 1) := by decide +kernel
theorem d_Se_source_0 : decode b_Se_source 0 = .ok (.iload_n 1, 1) := by decide +kernel
theorem d_Se_source_1 : decode b_Se_source 1 = .ok (.lookupswitch 63 #[(105, 58), (108, 48), (111, 53), (115, 43)], 43) := by decide +kernel
theorem d_Se_source_44 : decode b_Se_source 44 = .ok (.aload_n 0, 1) := by decide +kernel
theorem d_Se_source_45 : decode b_Se_source 45 = .ok (.getfield 14, 3) := by decide +kernel
theorem d_Se_source_48 : decode b_Se_source 48 = .ok (.areturn, 1) := by decide +kernel
theorem d_Se_source_49 : decode b_Se_source 49 = .ok (.aload_n 0, 1) := by decide +kernel
theorem d_Se_source_50 : decode b_Se_source 50 = .ok (.getfield 20, 3) := by decide +kernel
theorem d_Se_source_53 : decode b_Se_source 53 = .ok (.areturn, 1) := by decide +kernel
theorem d_Se_source_54 : decode b_Se_source 54 = .ok (.aload_n 0, 1) := by decide +kernel
theorem d_Se_source_55 : decode b_Se_source 55 = .ok (.getfield 23, 3) := by decide +kernel
theorem d_Se_source_58 : decode b_Se_source 58 = .ok (.areturn, 1) := by decide +kernel
theorem d_Se_source_59 : decode b_Se_source 59 = .ok (.aload_n 0, 1) := by decide +kernel
theorem d_Se_source_60 : decode b_Se_source 60 = .ok (.getfield 26, 3) := by decide +kernel
theorem d_Se_source_63 : decode b_Se_source 63 = .ok (.areturn, 1) := by decide +kernel
theorem d_Se_source_64 : decode b_Se_source 64 = .ok (.aload_n 2, 1) := by decide +kernel
theorem d_Se_source_65 : decode b_Se_source 65 = .ok (.areturn, 1) := by decide +kernel
theorem d_Se_take_0 : decode b_Se_take 0 = .ok (.aload_n 2, 1) := by decide +kernel
theorem d_Se_take_1 : decode b_Se_take 1 = .ok (.invokevirtual 33, 3) := by decide +kernel
theorem d_Se_take_4 : decode b_Se_take 4 = .ok (.istore_n 3, 1) := by decide +kernel
theorem d_Se_take_5 : decode b_Se_take 5 = .ok (.aload_n 2, 1) := by decide +kernel
theorem d_Se_take_6 : decode b_Se_take 6 = .ok (.bipush 64, 2) := by decide +kernel
theorem d_Se_take_8 : decode b_Se_take 8 = .ok (.iconst 0, 1) := by decide +kernel
theorem d_Se_take_9 : decode b_Se_take 9 = .ok (.iload_n 3, 1) := by decide +kernel
theorem d_Se_take_10 : decode b_Se_take 10 = .ok (.invokevirtual 37, 3) := by decide +kernel
theorem d_Se_take_13 : decode b_Se_take 13 = .ok (.istore 4, 2) := by decide +kernel
theorem d_Se_take_15 : decode b_Se_take 15 = .ok (.aload_n 2, 1) := by decide +kernel
theorem d_Se_take_16 : decode b_Se_take 16 = .ok (.iconst 0, 1) := by decide +kernel
theorem d_Se_take_17 : decode b_Se_take 17 = .ok (.iload 4, 2) := by decide +kernel
theorem d_Se_take_19 : decode b_Se_take 19 = .ok (.invokestatic 41, 3) := by decide +kernel
theorem d_Se_take_22 : decode b_Se_take 22 = .ok (.ifCond .eq 15, 3) := by decide +kernel
theorem d_Se_take_25 : decode b_Se_take 25 = .ok (.aload_n 2, 1) := by decide +kernel
theorem d_Se_take_26 : decode b_Se_take 26 = .ok (.iload 4, 2) := by decide +kernel
theorem d_Se_take_28 : decode b_Se_take 28 = .ok (.iconst 1, 1) := by decide +kernel
theorem d_Se_take_29 : decode b_Se_take 29 = .ok (.iadd, 1) := by decide +kernel
theorem d_Se_take_30 : decode b_Se_take 30 = .ok (.iload_n 3, 1) := by decide +kernel
theorem d_Se_take_31 : decode b_Se_take 31 = .ok (.invokestatic 47, 3) := by decide +kernel
theorem d_Se_take_34 : decode b_Se_take 34 = .ok (.ifCond .ne 5, 3) := by decide +kernel
theorem d_Se_take_37 : decode b_Se_take 37 = .ok (.iconst 0, 1) := by decide +kernel
theorem d_Se_take_38 : decode b_Se_take 38 = .ok (.ireturn, 1) := by decide +kernel
theorem d_Se_take_39 : decode b_Se_take 39 = .ok (.aload_n 0, 1) := by decide +kernel
theorem d_Se_take_40 : decode b_Se_take 40 = .ok (.iload_n 1, 1) := by decide +kernel
theorem d_Se_take_41 : decode b_Se_take 41 = .ok (.putfield 29, 3) := by decide +kernel
theorem d_Se_take_44 : decode b_Se_take 44 = .ok (.aload_n 0, 1) := by decide +kernel
theorem d_Se_take_45 : decode b_Se_take 45 = .ok (.getfield 14, 3) := by decide +kernel
theorem d_Se_take_48 : decode b_Se_take 48 = .ok (.aload_n 2, 1) := by decide +kernel
theorem d_Se_take_49 : decode b_Se_take 49 = .ok (.iconst 0, 1) := by decide +kernel
theorem d_Se_take_50 : decode b_Se_take 50 = .ok (.iload_n 3, 1) := by decide +kernel
theorem d_Se_take_51 : decode b_Se_take 51 = .ok (.invokestatic 50, 3) := by decide +kernel
theorem d_Se_take_54 : decode b_Se_take 54 = .ok (.aload_n 0, 1) := by decide +kernel
theorem d_Se_take_55 : decode b_Se_take 55 = .ok (.getfield 20, 3) := by decide +kernel
theorem d_Se_take_58 : decode b_Se_take 58 = .ok (.aload_n 2, 1) := by decide +kernel
theorem d_Se_take_59 : decode b_Se_take 59 = .ok (.iconst 0, 1) := by decide +kernel
theorem d_Se_take_60 : decode b_Se_take 60 = .ok (.iload 4, 2) := by decide +kernel
theorem d_Se_take_62 : decode b_Se_take 62 = .ok (.invokestatic 50, 3) := by decide +kernel
theorem d_Se_take_65 : decode b_Se_take 65 = .ok (.aload_n 0, 1) := by decide +kernel
theorem d_Se_take_66 : decode b_Se_take 66 = .ok (.getfield 23, 3) := by decide +kernel
theorem d_Se_take_69 : decode b_Se_take 69 = .ok (.aload_n 2, 1) := by decide +kernel
theorem d_Se_take_70 : decode b_Se_take 70 = .ok (.iload 4, 2) := by decide +kernel
theorem d_Se_take_72 : decode b_Se_take 72 = .ok (.iconst 1, 1) := by decide +kernel
theorem d_Se_take_73 : decode b_Se_take 73 = .ok (.iadd, 1) := by decide +kernel
theorem d_Se_take_74 : decode b_Se_take 74 = .ok (.iload_n 3, 1) := by decide +kernel
theorem d_Se_take_75 : decode b_Se_take 75 = .ok (.invokestatic 50, 3) := by decide +kernel
theorem d_Se_take_78 : decode b_Se_take 78 = .ok (.aload_n 0, 1) := by decide +kernel
theorem d_Se_take_79 : decode b_Se_take 79 = .ok (.invokevirtual 54, 3) := by decide +kernel
theorem d_Se_take_82 : decode b_Se_take 82 = .ok (.iconst 1, 1) := by decide +kernel
theorem d_Se_take_83 : decode b_Se_take 83 = .ok (.ireturn, 1) := by decide +kernel
theorem d_Se_writeDotted_0 : decode b_Se_writeDotted 0 = .ok (.aload_n 0, 1) := by decide +kernel
theorem d_Se_writeDotted_1 : decode b_Se_writeDotted 1 = .ok (.getfield 26, 3) := by decide +kernel
theorem d_Se_writeDotted_4 : decode b_Se_writeDotted 4 = .ok (.iconst 0, 1) := by decide +kernel
theorem d_Se_writeDotted_5 : decode b_Se_writeDotted 5 = .ok (.invokevirtual 57, 3) := by decide +kernel
theorem d_Se_writeDotted_8 : decode b_Se_writeDotted 8 = .ok (.bipush 24, 2) := by decide +kernel
theorem d_Se_writeDotted_10 : decode b_Se_writeDotted 10 = .ok (.istore_n 1, 1) := by decide +kernel
theorem d_Se_writeDotted_11 : decode b_Se_writeDotted 11 = .ok (.iload_n 1, 1) := by decide +kernel
theorem d_Se_writeDotted_12 : decode b_Se_writeDotted 12 = .ok (.ifCond .lt 39, 3) := by decide +kernel
theorem d_Se_writeDotted_15 : decode b_Se_writeDotted 15 = .ok (.aload_n 0, 1) := by decide +kernel
theorem d_Se_writeDotted_16 : decode b_Se_writeDotted 16 = .ok (.getfield 26, 3) := by decide +kernel
theorem d_Se_writeDotted_19 : decode b_Se_writeDotted 19 = .ok (.aload_n 0, 1) := by decide +kernel
theorem d_Se_writeDotted_20 : decode b_Se_writeDotted 20 = .ok (.getfield 29, 3) := by decide +kernel
theorem d_Se_writeDotted_23 : decode b_Se_writeDotted 23 = .ok (.iload_n 1, 1) := by decide +kernel
theorem d_Se_writeDotted_24 : decode b_Se_writeDotted 24 = .ok (.iushr, 1) := by decide +kernel
theorem d_Se_writeDotted_25 : decode b_Se_writeDotted 25 = .ok (.sipush 255, 3) := by decide +kernel
theorem d_Se_writeDotted_28 : decode b_Se_writeDotted 28 = .ok (.iand, 1) := by decide +kernel
theorem d_Se_writeDotted_29 : decode b_Se_writeDotted 29 = .ok (.invokevirtual 64, 3) := by decide +kernel
theorem d_Se_writeDotted_32 : decode b_Se_writeDotted 32 = .ok (.iload_n 1, 1) := by decide +kernel
theorem d_Se_writeDotted_33 : decode b_Se_writeDotted 33 = .ok (.ifCond .le 12, 3) := by decide +kernel
theorem d_Se_writeDotted_36 : decode b_Se_writeDotted 36 = .ok (.aload_n 0, 1) := by decide +kernel
theorem d_Se_writeDotted_37 : decode b_Se_writeDotted 37 = .ok (.getfield 26, 3) := by decide +kernel
theorem d_Se_writeDotted_40 : decode b_Se_writeDotted 40 = .ok (.bipush 46, 2) := by decide +kernel
theorem d_Se_writeDotted_42 : decode b_Se_writeDotted 42 = .ok (.invokevirtual 67, 3) := by decide +kernel
theorem d_Se_writeDotted_45 : decode b_Se_writeDotted 45 = .ok (.iinc 1 (-8), 3) := by decide +kernel
theorem d_Se_writeDotted_48 : decode b_Se_writeDotted 48 = .ok (.goto (-37), 3) := by decide +kernel
theorem d_Se_writeDotted_51 : decode b_Se_writeDotted 51 = .ok (.return_, 1) := by decide +kernel
end
section
set_option maxHeartbeats 4000000 in
set_option maxRecDepth 100000 in
theorem c_En_init {l : Launch} {D : Dg} {b0 : Nat} {M : Mp} {a : Nat} {sort : Int} {ad : Int32} {ns : Int} {vs : Int} {t : Nat} (h_obj_a : M a = some (t, .inr (cEn, [vI 0, .int 0, .null, .null]))) (hns : 0 ≤ ns ∧ ns ≤ 20000) (hvs : 0 ≤ vs ∧ vs ≤ 20000) : Ok l D b0 3 y_En_init b_En_init 5 none M [.ref a, vI sort, .int ad, vI ns, vI vs] 4 (6 + (min ns 64 : Int).toNat + (min vs 64 : Int).toNat) (fun r M' => ∃ nm : Nat, ∃ vl : Nat, r = none ∧ M' a = some (t, .inr (cEn, [vI sort, .int ad, .ref nm, .ref vl])) ∧ IsB D M' nm (t + 1) ns ((min ns 64 : Int).toNat, []) ∧ IsB D M' vl (t + 3) vs ((min vs 64 : Int).toNat, []) ∧ Fr [t, t + 1, t + 3] M M') := by
  refine Ok_of rfl (Nat.le_of_ble_eq_true rfl) (fun E hC hQ hl hD hB hN hR => ?_)
  subst hl hD hB
  show G E M 0 0 [(0, .ref a), (1, vI sort), (2, .int ad), (3, vI ns), (4, vI vs)] [] 0
  refine G_aload_n hC 0 rfl rfl d_En_init_0 ?_
  refine G_objI hC hR lm_En_3 (Nat.le_of_ble_eq_true rfl) (Nat.le_of_ble_eq_true rfl) d_En_init_1 ?_
  refine G_aload_n hC 0 rfl rfl d_En_init_4 ?_
  refine G_iload_n hC 1 rfl rfl d_En_init_5 ?_
  refine G_putFX (fs' := [vI sort, .int 0, .null, .null]) hC fl_En_9 ft_En ff_En_0 rfl h_obj_a rfl rfl (Nat.le_of_ble_eq_true rfl) rfl d_En_init_6 (fun M_1 h_2 fr_3 => ?_)
  refine G_aload_n hC 0 rfl rfl d_En_init_9 ?_
  refine G_iload_n hC 2 rfl rfl d_En_init_10 ?_
  refine G_putFX (fs' := [vI sort, .int ad, .null, .null]) hC fl_En_15 ft_En ff_En_1 rfl h_2 rfl rfl (Nat.le_of_ble_eq_true rfl) rfl d_En_init_11 (fun M_4 h_5 fr_6 => ?_)
  refine G_aload_n hC 0 rfl rfl d_En_init_14 ?_
  refine G_newX (t + 1) [vI 0, .null, vI 0] hC hR nw_En_18 (fun j hj => by rcases (show j = 0 ∨ j = 1 ∨ j = 2 by omega) with rfl | rfl | rfl <;> rfl) (by omega) (by omega) d_En_init_15 (fun q_7 M_8 h_9 fr_10 => ?_)
  refine G_dup hC rfl d_En_init_18 ?_
  refine G_iload_n hC 3 rfl rfl d_En_init_19 ?_
  refine G_xI (rest := [.ref q_7, .ref a]) hC hR (c_By_init h_9 (by omega)) ci_En_20 (by decide) (by omega) (by omega) rfl rfl (Nat.le_of_ble_eq_true rfl) d_En_init_20 (fun r_13 M_11 p_12 => ?_)
  obtain ⟨rfl, h_14, fr_15⟩ := p_12
  show G E M_11 (0 + 1 + (1)) (0 + 3 + ((min ns 64 : Int).toNat)) [(0, .ref a), (1, vI sort), (2, .int ad), (3, vI ns), (4, vI vs)] [.ref q_7, .ref a] 23
  have h_16 := fr_10.at h_5 (by simp only [List.mem_cons, List.not_mem_nil, or_false, not_or, not_false_eq_true]; try omega)
  have h_17 := fr_15.at h_16 (by simp only [List.mem_cons, List.not_mem_nil, or_false, not_or, not_false_eq_true]; try omega)
  refine G_putFX (fs' := [vI sort, .int ad, .ref q_7, .null]) hC fl_En_23 ft_En ff_En_2 rfl h_17 rfl rfl (Nat.le_of_ble_eq_true rfl) rfl d_En_init_23 (fun M_18 h_19 fr_20 => ?_)
  refine G_aload_n hC 0 rfl rfl d_En_init_26 ?_
  refine G_newX (t + 3) [vI 0, .null, vI 0] hC hR nw_En_18 (fun j hj => by rcases (show j = 0 ∨ j = 1 ∨ j = 2 by omega) with rfl | rfl | rfl <;> rfl) (by omega) (by omega) d_En_init_27 (fun q_21 M_22 h_23 fr_24 => ?_)
  refine G_dup hC rfl d_En_init_30 ?_
  refine G_iload hC 4 rfl d_En_init_31 ?_
  refine G_xI (rest := [.ref q_21, .ref a]) hC hR (c_By_init h_23 (by omega)) ci_En_20 (by decide) (by omega) (by omega) rfl rfl (Nat.le_of_ble_eq_true rfl) d_En_init_33 (fun r_27 M_25 p_26 => ?_)
  obtain ⟨rfl, h_28, fr_29⟩ := p_26
  show G E M_25 (0 + 1 + (1) + 1 + (1)) (0 + 3 + ((min ns 64 : Int).toNat) + 3 + ((min vs 64 : Int).toNat)) [(0, .ref a), (1, vI sort), (2, .int ad), (3, vI ns), (4, vI vs)] [.ref q_21, .ref a] 36
  have h_30 := fr_24.at h_19 (by simp only [List.mem_cons, List.not_mem_nil, or_false, not_or, not_false_eq_true]; try omega)
  have h_31 := fr_29.at h_30 (by simp only [List.mem_cons, List.not_mem_nil, or_false, not_or, not_false_eq_true]; try omega)
  refine G_putFX (fs' := [vI sort, .int ad, .ref q_7, .ref q_21]) hC fl_En_27 ft_En ff_En_3 rfl h_31 rfl rfl (Nat.le_of_ble_eq_true rfl) rfl d_En_init_36 (fun M_32 h_33 fr_34 => ?_)
  have h_35 := h_14.fr fr_20 (by simp only [List.mem_cons, List.not_mem_nil, or_false, not_or, not_false_eq_true]; try omega) (by simp only [List.mem_cons, List.not_mem_nil, or_false, not_or, not_false_eq_true]; try omega)
  have h_36 := h_35.fr fr_24 (by simp only [List.mem_cons, List.not_mem_nil, or_false, not_or, not_false_eq_true]; try omega) (by simp only [List.mem_cons, List.not_mem_nil, or_false, not_or, not_false_eq_true]; try omega)
  have h_37 := h_36.fr fr_29 (by simp only [List.mem_cons, List.not_mem_nil, or_false, not_or, not_false_eq_true]; try omega) (by simp only [List.mem_cons, List.not_mem_nil, or_false, not_or, not_false_eq_true]; try omega)
  have h_38 := h_37.fr fr_34 (by simp only [List.mem_cons, List.not_mem_nil, or_false, not_or, not_false_eq_true]; try omega) (by simp only [List.mem_cons, List.not_mem_nil, or_false, not_or, not_false_eq_true]; try omega)
  have h_39 := h_28.fr fr_34 (by simp only [List.mem_cons, List.not_mem_nil, or_false, not_or, not_false_eq_true]; try omega) (by simp only [List.mem_cons, List.not_mem_nil, or_false, not_or, not_false_eq_true]; try omega)
  exact G_return hC hQ (by omega) (by omega) d_En_init_39 ⟨_, _, rfl, h_33, h_38, h_39, ((((((((fr_3.up (T := [t, t + 1, t + 3]) (by simp)).tr' (T := [t, t + 1, t + 3]) fr_6 (fun _ z => z) (by simp)).tr' (T := [t, t + 1, t + 3]) fr_10 (fun _ z => z) (by simp)).tr' (T := [t, t + 1, t + 3]) fr_15 (fun _ z => z) (by simp)).tr' (T := [t, t + 1, t + 3]) fr_20 (fun _ z => z) (by simp)).tr' (T := [t, t + 1, t + 3]) fr_24 (fun _ z => z) (by simp)).tr' (T := [t, t + 1, t + 3]) fr_29 (fun _ z => z) (by simp)).tr' (T := [t, t + 1, t + 3]) fr_34 (fun _ z => z) (by simp))⟩

set_option maxHeartbeats 4000000 in
set_option maxRecDepth 100000 in
theorem c_Te_init {l : Launch} {D : Dg} {b0 : Nat} {M : Mp} {a : Nat}  : OkV l D b0 2 y_Te_init b_Te_init 1 none M [.ref a] := by
  refine Ok_of rfl (Nat.le_of_ble_eq_true rfl) (fun E hC hQ hl hD hB hN hR => ?_)
  subst hl hD hB
  show G E M 0 0 [(0, .ref a)] [] 0
  refine G_aload_n hC 0 rfl rfl d_Te_init_0 ?_
  refine G_objI hC hR lm_Te_3 (Nat.le_of_ble_eq_true rfl) (Nat.le_of_ble_eq_true rfl) d_Te_init_1 ?_
  exact G_vretP hC hQ d_Te_init_4

set_option maxHeartbeats 4000000 in
set_option maxRecDepth 100000 in
theorem c_Le_init {l : Launch} {D : Dg} {b0 : Nat} {M : Mp} {a : Nat} {t : Nat} (h_obj_a : M a = some (t, .inr (cLe, [.null, .null, vI 0, vI 0]))) : Ok l D b0 3 y_Le_init b_Le_init 1 none M [.ref a] 3 70 (fun r M' => ∃ nm : Nat, ∃ te : Nat, r = none ∧ M' a = some (t, .inr (cLe, [.ref nm, .ref te, vI 0, vI 0])) ∧ IsB D M' nm (t + 1) 61 (61, []) ∧ M' te = some (t + 3, .inr (cTe, [vI 0, vI 0, vI 0, .int 0, vI 0, vI 0])) ∧ Fr [t, t + 1, t + 3] M M') := by
  refine Ok_of rfl (Nat.le_of_ble_eq_true rfl) (fun E hC hQ hl hD hB hN hR => ?_)
  subst hl hD hB
  show G E M 0 0 [(0, .ref a)] [] 0
  refine G_aload_n hC 0 rfl rfl d_Le_init_0 ?_
  refine G_objI hC hR lm_Le_3 (Nat.le_of_ble_eq_true rfl) (Nat.le_of_ble_eq_true rfl) d_Le_init_1 ?_
  refine G_aload_n hC 0 rfl rfl d_Le_init_4 ?_
  refine G_newX (t + 1) [vI 0, .null, vI 0] hC hR nw_Le_9 (fun j hj => by rcases (show j = 0 ∨ j = 1 ∨ j = 2 by omega) with rfl | rfl | rfl <;> rfl) (by omega) (by omega) d_Le_init_5 (fun q_1 M_2 h_3 fr_4 => ?_)
  refine G_dup hC rfl d_Le_init_8 ?_
  refine G_bipush (j := 61) hC (by decide +kernel) d_Le_init_9 ?_
  refine G_xI (rest := [.ref q_1, .ref a]) hC hR (c_By_init h_3 (by omega)) ci_Le_11 (by decide) (by omega) (by omega) rfl rfl (Nat.le_of_ble_eq_true rfl) d_Le_init_11 (fun r_7 M_5 p_6 => ?_)
  obtain ⟨rfl, h_8, fr_9⟩ := p_6
  show G E M_5 (0 + 1 + (1)) (0 + 3 + ((min 61 64 : Int).toNat)) [(0, .ref a)] [.ref q_1, .ref a] 14
  have h_10 := fr_4.at h_obj_a (by simp only [List.mem_cons, List.not_mem_nil, or_false, not_or, not_false_eq_true]; try omega)
  have h_11 := fr_9.at h_10 (by simp only [List.mem_cons, List.not_mem_nil, or_false, not_or, not_false_eq_true]; try omega)
  refine G_putFX (fs' := [.ref q_1, .null, vI 0, vI 0]) hC fl_Le_14 ft_Le ff_Le_0 rfl h_11 rfl rfl (Nat.le_of_ble_eq_true rfl) rfl d_Le_init_14 (fun M_12 h_13 fr_14 => ?_)
  refine G_aload_n hC 0 rfl rfl d_Le_init_17 ?_
  refine G_newX (t + 3) [vI 0, vI 0, vI 0, .int 0, vI 0, vI 0] hC hR nw_Le_20 (fun j hj => by rcases (show j = 0 ∨ j = 1 ∨ j = 2 ∨ j = 3 ∨ j = 4 ∨ j = 5 by omega) with rfl | rfl | rfl | rfl | rfl | rfl <;> rfl) (by omega) (by omega) d_Le_init_18 (fun q_15 M_16 h_17 fr_18 => ?_)
  refine G_dup hC rfl d_Le_init_21 ?_
  refine G_vIN (rest := [.ref q_15, .ref a]) hC hR c_Te_init cm_Le_22 (by decide) (by omega) (by omega) rfl rfl (Nat.le_of_ble_eq_true rfl) d_Le_init_22 ?_
  have h_19 := fr_18.at h_13 (by simp only [List.mem_cons, List.not_mem_nil, or_false, not_or, not_false_eq_true]; try omega)
  refine G_putFX (fs' := [.ref q_1, .ref q_15, vI 0, vI 0]) hC fl_Le_23 ft_Le ff_Le_1 rfl h_19 rfl rfl (Nat.le_of_ble_eq_true rfl) rfl d_Le_init_25 (fun M_20 h_21 fr_22 => ?_)
  refine G_aload_n hC 0 rfl rfl d_Le_init_28 ?_
  refine G_iconst (i := 0) hC d_Le_init_29 ?_
  refine G_putX (fs' := [.ref q_1, .ref q_15, vI 0, vI 0]) hC fl_Le_27 ft_Le fw_Le_2 h_21 rfl rfl (Nat.le_of_ble_eq_true rfl) rfl d_Le_init_30 (fun M_23 h_24 fr_25 => ?_)
  refine G_aload_n hC 0 rfl rfl d_Le_init_33 ?_
  refine G_iconst (i := 0) hC d_Le_init_34 ?_
  refine G_putX (fs' := [.ref q_1, .ref q_15, vI 0, vI 0]) hC fl_Le_31 ft_Le fw_Le_3 h_24 rfl rfl (Nat.le_of_ble_eq_true rfl) rfl d_Le_init_35 (fun M_26 h_27 fr_28 => ?_)
  have h_29 := h_8.fr fr_14 (by simp only [List.mem_cons, List.not_mem_nil, or_false, not_or, not_false_eq_true]; try omega) (by simp only [List.mem_cons, List.not_mem_nil, or_false, not_or, not_false_eq_true]; try omega)
  have h_30 := h_29.fr fr_18 (by simp only [List.mem_cons, List.not_mem_nil, or_false, not_or, not_false_eq_true]; try omega) (by simp only [List.mem_cons, List.not_mem_nil, or_false, not_or, not_false_eq_true]; try omega)
  have h_31 := h_30.fr fr_22 (by simp only [List.mem_cons, List.not_mem_nil, or_false, not_or, not_false_eq_true]; try omega) (by simp only [List.mem_cons, List.not_mem_nil, or_false, not_or, not_false_eq_true]; try omega)
  have h_32 := h_31.fr fr_25 (by simp only [List.mem_cons, List.not_mem_nil, or_false, not_or, not_false_eq_true]; try omega) (by simp only [List.mem_cons, List.not_mem_nil, or_false, not_or, not_false_eq_true]; try omega)
  have h_33 := h_32.fr fr_28 (by simp only [List.mem_cons, List.not_mem_nil, or_false, not_or, not_false_eq_true]; try omega) (by simp only [List.mem_cons, List.not_mem_nil, or_false, not_or, not_false_eq_true]; try omega)
  have h_34 := fr_22.at h_17 (by simp only [List.mem_cons, List.not_mem_nil, or_false, not_or, not_false_eq_true]; try omega)
  have h_35 := fr_25.at h_34 (by simp only [List.mem_cons, List.not_mem_nil, or_false, not_or, not_false_eq_true]; try omega)
  have h_36 := fr_28.at h_35 (by simp only [List.mem_cons, List.not_mem_nil, or_false, not_or, not_false_eq_true]; try omega)
  exact G_return hC hQ (by omega) (by omega) d_Le_init_38 ⟨_, _, rfl, h_27, h_33, h_36, (((((((fr_4.up (T := [t, t + 1, t + 3]) (by simp)).tr' (T := [t, t + 1, t + 3]) fr_9 (fun _ z => z) (by simp)).tr' (T := [t, t + 1, t + 3]) fr_14 (fun _ z => z) (by simp)).tr' (T := [t, t + 1, t + 3]) fr_18 (fun _ z => z) (by simp)).tr' (T := [t, t + 1, t + 3]) fr_22 (fun _ z => z) (by simp)).tr' (T := [t, t + 1, t + 3]) fr_25 (fun _ z => z) (by simp)).tr' (T := [t, t + 1, t + 3]) fr_28 (fun _ z => z) (by simp))⟩

set_option maxHeartbeats 4000000 in
set_option maxRecDepth 100000 in
theorem c_Se_init {l : Launch} {D : Dg} {b0 : Nat} {M : Mp} {a : Nat} (h_obj_a : M a = some (8, .inr (cSe, [.null, .null, .null, .null, .int 0]))) : Ok l D b0 3 y_Se_init b_Se_init 1 none M [.ref a] 8 (12 + 64 + 30 + 60 + 15) (fun r M' => r = none ∧ IsSe D M' a none ∧ Fr [8, 9, 11, 13, 15] M M') := by
  refine Ok_of rfl (Nat.le_of_ble_eq_true rfl) (fun E hC hQ hl hD hB hN hR => ?_)
  subst hl hD hB
  show G E M 0 0 [(0, .ref a)] [] 0
  refine G_aload_n hC 0 rfl rfl d_Se_init_0 ?_
  refine G_objI hC hR lm_Se_3 (Nat.le_of_ble_eq_true rfl) (Nat.le_of_ble_eq_true rfl) d_Se_init_1 ?_
  refine G_aload_n hC 0 rfl rfl d_Se_init_4 ?_
  refine G_newX 9 [vI 0, .null, vI 0] hC hR nw_Se_9 (fun j hj => by rcases (show j = 0 ∨ j = 1 ∨ j = 2 by omega) with rfl | rfl | rfl <;> rfl) (by omega) (by omega) d_Se_init_5 (fun q_1 M_2 h_3 fr_4 => ?_)
  refine G_dup hC rfl d_Se_init_8 ?_
  refine G_bipush (j := 91) hC (by decide +kernel) d_Se_init_9 ?_
  refine G_xI (rest := [.ref q_1, .ref a]) hC hR (c_By_init h_3 (by omega)) ci_Se_11 (by decide) (by omega) (by omega) rfl rfl (Nat.le_of_ble_eq_true rfl) d_Se_init_11 (fun r_7 M_5 p_6 => ?_)
  obtain ⟨rfl, h_8, fr_9⟩ := p_6
  show G E M_5 (0 + 1 + (1)) (0 + 3 + ((min 91 64 : Int).toNat)) [(0, .ref a)] [.ref q_1, .ref a] 14
  have h_10 := fr_4.at h_obj_a (by decide)
  have h_11 := fr_9.at h_10 (by decide)
  refine G_putFX (fs' := [.ref q_1, .null, .null, .null, .int 0]) hC fl_Se_14 ft_Se ff_Se_0 rfl h_11 rfl rfl (Nat.le_of_ble_eq_true rfl) rfl d_Se_init_14 (fun M_12 h_13 fr_14 => ?_)
  refine G_aload_n hC 0 rfl rfl d_Se_init_17 ?_
  refine G_newX 11 [vI 0, .null, vI 0] hC hR nw_Se_9 (fun j hj => by rcases (show j = 0 ∨ j = 1 ∨ j = 2 by omega) with rfl | rfl | rfl <;> rfl) (by omega) (by omega) d_Se_init_18 (fun q_15 M_16 h_17 fr_18 => ?_)
  refine G_dup hC rfl d_Se_init_21 ?_
  refine G_bipush (j := 30) hC (by decide +kernel) d_Se_init_22 ?_
  refine G_xI (rest := [.ref q_15, .ref a]) hC hR (c_By_init h_17 (by omega)) ci_Se_11 (by decide) (by omega) (by omega) rfl rfl (Nat.le_of_ble_eq_true rfl) d_Se_init_24 (fun r_21 M_19 p_20 => ?_)
  obtain ⟨rfl, h_22, fr_23⟩ := p_20
  show G E M_19 (0 + 1 + (1) + 1 + (1)) (0 + 3 + ((min 91 64 : Int).toNat) + 3 + ((min 30 64 : Int).toNat)) [(0, .ref a)] [.ref q_15, .ref a] 27
  have h_24 := fr_18.at h_13 (by decide)
  have h_25 := fr_23.at h_24 (by decide)
  refine G_putFX (fs' := [.ref q_1, .ref q_15, .null, .null, .int 0]) hC fl_Se_20 ft_Se ff_Se_1 rfl h_25 rfl rfl (Nat.le_of_ble_eq_true rfl) rfl d_Se_init_27 (fun M_26 h_27 fr_28 => ?_)
  refine G_aload_n hC 0 rfl rfl d_Se_init_30 ?_
  refine G_newX 13 [vI 0, .null, vI 0] hC hR nw_Se_9 (fun j hj => by rcases (show j = 0 ∨ j = 1 ∨ j = 2 by omega) with rfl | rfl | rfl <;> rfl) (by omega) (by omega) d_Se_init_31 (fun q_29 M_30 h_31 fr_32 => ?_)
  refine G_dup hC rfl d_Se_init_34 ?_
  refine G_bipush (j := 60) hC (by decide +kernel) d_Se_init_35 ?_
  refine G_xI (rest := [.ref q_29, .ref a]) hC hR (c_By_init h_31 (by omega)) ci_Se_11 (by decide) (by omega) (by omega) rfl rfl (Nat.le_of_ble_eq_true rfl) d_Se_init_37 (fun r_35 M_33 p_34 => ?_)
  obtain ⟨rfl, h_36, fr_37⟩ := p_34
  show G E M_33 (0 + 1 + (1) + 1 + (1) + 1 + (1)) (0 + 3 + ((min 91 64 : Int).toNat) + 3 + ((min 30 64 : Int).toNat) + 3 + ((min 60 64 : Int).toNat)) [(0, .ref a)] [.ref q_29, .ref a] 40
  have h_38 := fr_32.at h_27 (by decide)
  have h_39 := fr_37.at h_38 (by decide)
  refine G_putFX (fs' := [.ref q_1, .ref q_15, .ref q_29, .null, .int 0]) hC fl_Se_23 ft_Se ff_Se_2 rfl h_39 rfl rfl (Nat.le_of_ble_eq_true rfl) rfl d_Se_init_40 (fun M_40 h_41 fr_42 => ?_)
  refine G_aload_n hC 0 rfl rfl d_Se_init_43 ?_
  refine G_newX 15 [vI 0, .null, vI 0] hC hR nw_Se_9 (fun j hj => by rcases (show j = 0 ∨ j = 1 ∨ j = 2 by omega) with rfl | rfl | rfl <;> rfl) (by omega) (by omega) d_Se_init_44 (fun q_43 M_44 h_45 fr_46 => ?_)
  refine G_dup hC rfl d_Se_init_47 ?_
  refine G_bipush (j := 15) hC (by decide +kernel) d_Se_init_48 ?_
  refine G_xI (rest := [.ref q_43, .ref a]) hC hR (c_By_init h_45 (by omega)) ci_Se_11 (by decide) (by omega) (by omega) rfl rfl (Nat.le_of_ble_eq_true rfl) d_Se_init_50 (fun r_49 M_47 p_48 => ?_)
  obtain ⟨rfl, h_50, fr_51⟩ := p_48
  show G E M_47 (0 + 1 + (1) + 1 + (1) + 1 + (1) + 1 + (1)) (0 + 3 + ((min 91 64 : Int).toNat) + 3 + ((min 30 64 : Int).toNat) + 3 + ((min 60 64 : Int).toNat) + 3 + ((min 15 64 : Int).toNat)) [(0, .ref a)] [.ref q_43, .ref a] 53
  have h_52 := fr_46.at h_41 (by decide)
  have h_53 := fr_51.at h_52 (by decide)
  refine G_putFX (fs' := [.ref q_1, .ref q_15, .ref q_29, .ref q_43, .int 0]) hC fl_Se_26 ft_Se ff_Se_3 rfl h_53 rfl rfl (Nat.le_of_ble_eq_true rfl) rfl d_Se_init_53 (fun M_54 h_55 fr_56 => ?_)
  refine G_aload_n hC 0 rfl rfl d_Se_init_56 ?_
  refine G_iconst (i := 0) hC d_Se_init_57 ?_
  refine G_putX (fs' := [.ref q_1, .ref q_15, .ref q_29, .ref q_43, vI 0]) hC fl_Se_29 ft_Se fw_Se_4 h_55 rfl rfl (Nat.le_of_ble_eq_true rfl) rfl d_Se_init_58 (fun M_57 h_58 fr_59 => ?_)
  have h_60 := h_8.fr fr_14 (by decide) (by decide)
  have h_61 := h_60.fr fr_18 (by decide) (by decide)
  have h_62 := h_61.fr fr_23 (by decide) (by decide)
  have h_63 := h_62.fr fr_28 (by decide) (by decide)
  have h_64 := h_63.fr fr_32 (by decide) (by decide)
  have h_65 := h_64.fr fr_37 (by decide) (by decide)
  have h_66 := h_65.fr fr_42 (by decide) (by decide)
  have h_67 := h_66.fr fr_46 (by decide) (by decide)
  have h_68 := h_67.fr fr_51 (by decide) (by decide)
  have h_69 := h_68.fr fr_56 (by decide) (by decide)
  have h_70 := h_69.fr fr_59 (by decide) (by decide)
  have h_71 := h_22.fr fr_28 (by decide) (by decide)
  have h_72 := h_71.fr fr_32 (by decide) (by decide)
  have h_73 := h_72.fr fr_37 (by decide) (by decide)
  have h_74 := h_73.fr fr_42 (by decide) (by decide)
  have h_75 := h_74.fr fr_46 (by decide) (by decide)
  have h_76 := h_75.fr fr_51 (by decide) (by decide)
  have h_77 := h_76.fr fr_56 (by decide) (by decide)
  have h_78 := h_77.fr fr_59 (by decide) (by decide)
  have h_79 := h_36.fr fr_42 (by decide) (by decide)
  have h_80 := h_79.fr fr_46 (by decide) (by decide)
  have h_81 := h_80.fr fr_51 (by decide) (by decide)
  have h_82 := h_81.fr fr_56 (by decide) (by decide)
  have h_83 := h_82.fr fr_59 (by decide) (by decide)
  have h_84 := h_50.fr fr_56 (by decide) (by decide)
  have h_85 := h_84.fr fr_59 (by decide) (by decide)
  exact G_return hC hQ (by omega) (by omega) d_Se_init_61 ⟨rfl, ⟨_, _, _, _, _, _, _, _, _, h_58, h_70, h_78, h_83, h_85, rfl, fun _ => rfl, fun s9 h9 => by cases h9⟩, (((((((((((((fr_4.up (T := [8, 9, 11, 13, 15]) (by simp)).tr' (T := [8, 9, 11, 13, 15]) fr_9 (fun _ z => z) (by simp)).tr' (T := [8, 9, 11, 13, 15]) fr_14 (fun _ z => z) (by simp)).tr' (T := [8, 9, 11, 13, 15]) fr_18 (fun _ z => z) (by simp)).tr' (T := [8, 9, 11, 13, 15]) fr_23 (fun _ z => z) (by simp)).tr' (T := [8, 9, 11, 13, 15]) fr_28 (fun _ z => z) (by simp)).tr' (T := [8, 9, 11, 13, 15]) fr_32 (fun _ z => z) (by simp)).tr' (T := [8, 9, 11, 13, 15]) fr_37 (fun _ z => z) (by simp)).tr' (T := [8, 9, 11, 13, 15]) fr_42 (fun _ z => z) (by simp)).tr' (T := [8, 9, 11, 13, 15]) fr_46 (fun _ z => z) (by simp)).tr' (T := [8, 9, 11, 13, 15]) fr_51 (fun _ z => z) (by simp)).tr' (T := [8, 9, 11, 13, 15]) fr_56 (fun _ z => z) (by simp)).tr' (T := [8, 9, 11, 13, 15]) fr_59 (fun _ z => z) (by simp))⟩

set_option maxHeartbeats 4000000 in
set_option maxRecDepth 100000 in
theorem c_Se_isKnown {l : Launch} {D : Dg} {b0 : Nat} {M : Mp} {a : Nat} {so : Option Snd} (h_Se_a : IsSe D M a so) : OkP l D b0 2 y_Se_isKnown b_Se_isKnown 1 (some .boolean) M [.ref a] (vI (b2i so.isSome)) := by
  refine Ok_of rfl (Nat.le_of_ble_eq_true rfl) (fun E hC hQ hl hD hB hN hR => ?_)
  subst hl hD hB
  obtain ⟨m_1, l_2, d_3, e_4, bm_5, bl_6, bd_7, be_8, ad_9, h_10, h_11, h_12, h_13, h_14, h_15, h_16, h_17⟩ := id h_Se_a
  have hm9 := h_11.len
  show G E M 0 0 [(0, .ref a)] [] 0
  refine G_aload_n hC 0 rfl rfl d_Se_isKnown_0 ?_
  refine G_get hC fl_Se_14 h_10 rfl d_Se_isKnown_1 ?_
  refine G_pV (rest := []) hC hR (c_By_size h_11) cv_Se_33 h_11.obj (by decide) (by omega) (by omega) rfl rfl (Nat.le_of_ble_eq_true rfl) d_Se_isKnown_4 ?_
  have g_18 := h_11.len
  refine G_if_le hC 14 (by omega) (by decide) d_Se_isKnown_7 (fun c_19 => ?_) (fun c_19 => ?_)
  · refine G_iconst (i := 0) hC d_Se_isKnown_14 ?_
    exact G_zretP hC hQ d_Se_isKnown_15 (b2i_f (by cases so with | none => rfl | some s9 => (have h9 := congrArg List.length (h_17 s9 rfl).2.1; rw [List.length_append, List.length_append, List.length_singleton] at h9; exfalso; omega)))
  · refine G_iconst (i := 1) hC d_Se_isKnown_10 ?_
    refine G_goto hC 15 (by decide) d_Se_isKnown_11 ?_
    exact G_zretP hC hQ d_Se_isKnown_15 (b2i_t (by cases so with | none => (have h9 := congrArg List.length (h_16 rfl); rw [List.length_nil] at h9; exfalso; omega) | some s9 => rfl))

set_option maxHeartbeats 4000000 in
set_option maxRecDepth 100000 in
theorem c_Se_address {l : Launch} {D : Dg} {b0 : Nat} {M : Mp} {a : Nat} {sd : Snd} (h_Se_a : IsSe D M a (some sd)) : OkP l D b0 1 y_Se_address b_Se_address 1 (some .int) M [.ref a] (.int sd.2.2) := by
  refine Ok_of rfl (Nat.le_of_ble_eq_true rfl) (fun E hC hQ hl hD hB hN hR => ?_)
  subst hl hD hB
  obtain ⟨m_1, l_2, d_3, e_4, bm_5, bl_6, bd_7, be_8, ad_9, h_10, h_11, h_12, h_13, h_14, h_15, h_16, h_17⟩ := id h_Se_a
  obtain ⟨-, -, -, -, -, had9⟩ := h_17 _ rfl
  subst had9
  show G E M 0 0 [(0, .ref a)] [] 0
  refine G_aload_n hC 0 rfl rfl d_Se_address_0 ?_
  refine G_get hC fl_Se_29 h_10 rfl d_Se_address_1 ?_
  exact G_xretP hC hQ d_Se_address_4

set_option maxHeartbeats 4000000 in
set_option maxRecDepth 100000 in
theorem c_Se_domain {l : Launch} {D : Dg} {b0 : Nat} {M : Mp} {a : Nat} {sd : Snd} (h_Se_a : IsSe D M a (some sd)) : Ok l D b0 1 y_Se_domain b_Se_domain 1 (some (.object "SendPolicy$Bytes")) M [.ref a] 0 0 (fun r M' => ∃ q : Nat, ∃ bq : Bv, r = some (.ref q) ∧ IsB D M' q 13 60 bq ∧ (bq.2 = sd.2.1) ∧ M = M') := by
  refine Ok_of rfl (Nat.le_of_ble_eq_true rfl) (fun E hC hQ hl hD hB hN hR => ?_)
  subst hl hD hB
  obtain ⟨m_1, l_2, d_3, e_4, bm_5, bl_6, bd_7, be_8, ad_9, h_10, h_11, h_12, h_13, h_14, h_15, h_16, h_17⟩ := id h_Se_a
  show G E M 0 0 [(0, .ref a)] [] 0
  refine G_aload_n hC 0 rfl rfl d_Se_domain_0 ?_
  refine G_get hC fl_Se_23 h_10 rfl d_Se_domain_1 ?_
  exact G_areturn hC hQ (Or.inl ⟨_, rfl⟩) (Or.inr ⟨_, rfl⟩) (by omega) (by omega) d_Se_domain_4 ⟨d_3, _, rfl, h_13, (h_17 _ rfl).2.2.2.1, rfl⟩

set_option maxHeartbeats 4000000 in
set_option maxRecDepth 100000 in
theorem c_Se_source {l : Launch} {D : Dg} {b0 : Nat} {M : Mp} {a : Nat} {c : Int} {o : Nat} {t : Nat} {lim : Int} {b : Bv} {sd : Snd} (h_Se_a : IsSe D M a (some sd)) (h_B_o : IsB D M o t lim b) (hc : -2147483648 ≤ c ∧ c ≤ 2147483647) : Ok l D b0 1 y_Se_source b_Se_source 3 (some (.object "SendPolicy$Bytes")) M [.ref a, vI c, .ref o] 0 0 (fun r M' => ∃ q : Nat, ∃ tq : Nat, ∃ lq : Int, ∃ bq : Bv, r = some (.ref q) ∧ IsB D M' q tq lq bq ∧ (bq.2 = srcS sd b.2 c ∧ ((9 ≤ tq ∧ tq ≤ 15) ∨ tq = t)) ∧ M = M') := by
  refine Ok_of rfl (Nat.le_of_ble_eq_true rfl) (fun E hC hQ hl hD hB hN hR => ?_)
  subst hl hD hB
  obtain ⟨m_1, l_2, d_3, e_4, bm_5, bl_6, bd_7, be_8, ad_9, h_10, h_11, h_12, h_13, h_14, h_15, h_16, h_17⟩ := id h_Se_a
  obtain ⟨hs1, hs2, hs3, hs4, hs5, hs6⟩ := h_17 _ rfl
  show G E M 0 0 [(0, .ref a), (1, vI c), (2, .ref o)] [] 0
  refine G_iload_n hC 1 rfl rfl d_Se_source_0 ?_
  by_cases c_18 : c = 105
  · refine G_look 59 hC (by omega) rfl (by rw [c_18]; try rfl) (by decide) d_Se_source_1 ?_
    refine G_aload_n hC 0 rfl rfl d_Se_source_59 ?_
    refine G_get hC fl_Se_26 h_10 rfl d_Se_source_60 ?_
    exact G_areturn hC hQ (Or.inl ⟨_, rfl⟩) (Or.inr ⟨_, rfl⟩) (by omega) (by omega) d_Se_source_63 ⟨e_4, _, _, _, rfl, h_14, ⟨by unfold srcS; rw [if_neg (by omega), if_neg (by omega), if_neg (by omega), if_pos (by omega)]; exact hs5, Or.inl (by omega)⟩, rfl⟩
  by_cases c_19 : c = 108
  · refine G_look 49 hC (by omega) rfl (by rw [c_19]; try rfl) (by decide) d_Se_source_1 ?_
    refine G_aload_n hC 0 rfl rfl d_Se_source_49 ?_
    refine G_get hC fl_Se_20 h_10 rfl d_Se_source_50 ?_
    exact G_areturn hC hQ (Or.inl ⟨_, rfl⟩) (Or.inr ⟨_, rfl⟩) (by omega) (by omega) d_Se_source_53 ⟨l_2, _, _, _, rfl, h_12, ⟨by unfold srcS; rw [if_neg (by omega), if_pos (by omega)]; exact hs3, Or.inl (by omega)⟩, rfl⟩
  by_cases c_20 : c = 111
  · refine G_look 54 hC (by omega) rfl (by rw [c_20]; try rfl) (by decide) d_Se_source_1 ?_
    refine G_aload_n hC 0 rfl rfl d_Se_source_54 ?_
    refine G_get hC fl_Se_23 h_10 rfl d_Se_source_55 ?_
    exact G_areturn hC hQ (Or.inl ⟨_, rfl⟩) (Or.inr ⟨_, rfl⟩) (by omega) (by omega) d_Se_source_58 ⟨d_3, _, _, _, rfl, h_13, ⟨by unfold srcS; rw [if_neg (by omega), if_neg (by omega), if_pos (by omega)]; exact hs4, Or.inl (by omega)⟩, rfl⟩
  by_cases c_21 : c = 115
  · refine G_look 44 hC (by omega) rfl (by rw [c_21]; try rfl) (by decide) d_Se_source_1 ?_
    refine G_aload_n hC 0 rfl rfl d_Se_source_44 ?_
    refine G_get hC fl_Se_14 h_10 rfl d_Se_source_45 ?_
    exact G_areturn hC hQ (Or.inl ⟨_, rfl⟩) (Or.inr ⟨_, rfl⟩) (by omega) (by omega) d_Se_source_48 ⟨m_1, _, _, _, rfl, h_11, ⟨by unfold srcS; rw [if_pos (by omega)]; exact hs2, Or.inl (by omega)⟩, rfl⟩
  refine G_look (off := 63) 64 hC (by omega) rfl (by simp only [Op.lookupswitch.offset]; rw [if_neg (by omega), if_neg (by omega), if_neg (by omega), if_neg (by omega)]) (by decide) d_Se_source_1 ?_
  refine G_aload_n hC 2 rfl rfl d_Se_source_64 ?_
  exact G_areturn hC hQ (Or.inl ⟨_, rfl⟩) (Or.inr ⟨_, rfl⟩) (by omega) (by omega) d_Se_source_65 ⟨o, _, _, _, rfl, h_B_o, ⟨by unfold srcS; rw [if_neg (by omega), if_neg (by omega), if_neg (by omega), if_neg (by omega)], Or.inr rfl⟩, rfl⟩

set_option maxHeartbeats 4000000 in
set_option maxRecDepth 100000 in
theorem c_Se_refill {l : Launch} {D : Dg} {b0 : Nat} {M : Mp} {a : Nat} {o : Nat} {fr : Int} {to : Int} {t : Nat} {lim : Int} {b : Bv} {t2 : Nat} {lim2 : Int} {b2 : Bv} (h_B_a : IsB D M a t lim b) (h_B_o : IsB D M o t2 lim2 b2) (hfr : -100000 ≤ fr ∧ fr ≤ 100000) (hto : -100000 ≤ to ∧ to ≤ 100000) (htt : t2 ≠ t ∧ t2 ≠ t + 1 ∧ t2 + 1 ≠ t ∧ t2 + 1 ≠ t + 1) : Ok l D b0 4 y_Se_refill b_Se_refill 4 none M [.ref a, .ref o, vI fr, vI to] (psi lim (addPB lim (b.1, []) b2.2 fr to) - psi lim b) (psi lim (addPB lim (b.1, []) b2.2 fr to) - psi lim b) (fun r M' => r = none ∧ IsB D M' a t lim (addPB lim (b.1, []) b2.2 fr to) ∧ Fr [t, t + 1] M M') := by
  refine Ok_of rfl (Nat.le_of_ble_eq_true rfl) (fun E hC hQ hl hD hB hN hR => ?_)
  subst hl hD hB
  have hB9 := h_B_a.len
  have hO9 := h_B_o.len
  have hcut := cut0_psi lim b (by omega)
  have hadd := psi_addPB (lim := lim) (b := (b.1, [])) b2.2 fr to ⟨by simp, by omega⟩
  show G E M 0 0 [(0, .ref a), (1, .ref o), (2, vI fr), (3, vI to)] [] 0
  refine G_aload_n hC 0 rfl rfl d_Se_refill_0 ?_
  refine G_iconst (i := 0) hC d_Se_refill_1 ?_
  refine G_xV (rest := []) hC hR (c_By_cut h_B_a (by omega)) cv_Se_57 h_B_a.obj (by decide) (by omega) (by omega) rfl rfl (Nat.le_of_ble_eq_true rfl) d_Se_refill_2 (fun r_3 M_1 p_2 => ?_)
  obtain ⟨rfl, h_4, fr_5⟩ := p_2
  show G E M_1 (0 + 0) (0 + 0) [(0, .ref a), (1, .ref o), (2, vI fr), (3, vI to)] [] 5
  refine G_aload_n hC 0 rfl rfl d_Se_refill_5 ?_
  refine G_aload_n hC 1 rfl rfl d_Se_refill_6 ?_
  refine G_iload_n hC 2 rfl rfl d_Se_refill_7 ?_
  refine G_iload_n hC 3 rfl rfl d_Se_refill_8 ?_
  have h_6 : IsB (eD E) M_1 a t lim (b.1, []) := by rw [← cut0 b]; exact h_4
  have hl0 : ((b.1, ([] : List Int)) : Bv).2.length = 0 := rfl
  have h_7 := h_B_o.fr fr_5 (by simp only [List.mem_cons, List.not_mem_nil, or_false, not_or, not_false_eq_true]; try omega) (by simp only [List.mem_cons, List.not_mem_nil, or_false, not_or, not_false_eq_true]; try omega)
  refine G_xV (rest := []) hC hR (c_By_addPart h_6 h_7 (by omega) (by omega) htt) cv_Se_60 h_6.obj (by decide) (by omega) (by omega) rfl rfl (Nat.le_of_ble_eq_true rfl) d_Se_refill_9 (fun r_10 M_8 p_9 => ?_)
  obtain ⟨rfl, h_11, fr_12⟩ := p_9
  show G E M_8 (0 + 0 + (psi lim (addPB lim (b.1, []) b2.2 fr to) - psi lim (b.1, []))) (0 + 0 + (psi lim (addPB lim (b.1, []) b2.2 fr to) - psi lim (b.1, []))) [(0, .ref a), (1, .ref o), (2, vI fr), (3, vI to)] [] 12
  have g_13 := psi_addPB (lim := lim) (b := (b.1, [])) b2.2 fr to ⟨h_6.len.1, h_6.len.2.1⟩
  exact G_return hC hQ (by omega) (by omega) d_Se_refill_12 ⟨rfl, h_11, ((fr_5.up (T := [t, t + 1]) (by simp)).tr' (T := [t, t + 1]) fr_12 (fun _ z => z) (by simp))⟩
end
section
/-! ROWS AS LISTS: what is added is cut off at the limit -/
theorem psi_max {lim : Int} {b : Bv} (h : (b.1 : Int) ≤ lim) : psi lim b ≤ 3 * lim.toNat := by
  unfold psi
  split <;> omega
theorem addB_2 {lim : Int} {b : Bv} (c : Int) (h : (b.2.length : Int) ≤ lim) : (addB lim b c).2 = (b.2 ++ [(c + 128) % 256 - 128]).take lim.toNat := by
  by_cases h1 : lim ≤ b.2.length
  · rw [addB_full h1, List.take_append_of_le_length (by omega), List.take_of_length_le (by omega)]
  · have e : (b.2 ++ [(c + 128) % 256 - 128]).take lim.toNat = b.2 ++ [(c + 128) % 256 - 128] := List.take_of_length_le (by rw [List.length_append, List.length_singleton]; omega)
    rw [e]
    by_cases h2 : b.1 ≤ b.2.length
    · rw [addB_grow h1 h2]
    · rw [addB_fits h1 h2]
theorem addB_1 {lim : Int} {b : Bv} (c : Int) (h : (b.1 : Int) = lim) : (addB lim b c).1 = b.1 := by
  by_cases h1 : lim ≤ b.2.length
  · rw [addB_full h1]
  · rw [addB_fits h1 (by omega)]
theorem addB_len {lim : Int} {b : Bv} (c : Int) (h : (b.2.length : Int) ≤ lim) : ((addB lim b c).2.length : Int) ≤ lim := by
  rw [addB_2 c h, List.length_take]
  omega
theorem addPB_2 {lim : Int} {b : Bv} (ys : List Int) (fr to : Int) (h : (b.2.length : Int) ≤ lim) : (addPB lim b ys fr to).2 = if fr < 0 ∨ to ≤ fr ∨ (ys.length : Int) < to then b.2 else (b.2 ++ (ys.drop fr.toNat).take (to - fr).toNat).take lim.toNat := by
  by_cases h1 : fr < 0 ∨ to ≤ fr ∨ (ys.length : Int) < to
  · rw [addPB_none h1, if_pos h1]
  · rw [if_neg h1]
    have e : (b.2 ++ (ys.drop fr.toNat).take (to - fr).toNat).take lim.toNat = b.2 ++ (ys.drop fr.toNat).take (min (to - fr) (lim - (b.2.length : Int))).toNat := by
      rw [List.take_append, List.take_of_length_le (show b.2.length ≤ lim.toNat by omega), List.take_take]
      congr 2
      omega
    rw [e]
    by_cases h2 : (b.1 : Int) < b.2.length + min (to - fr) (lim - b.2.length)
    · rw [addPB_grow h1 h2]
    · rw [addPB_fits h1 h2]
theorem addPB_1 {lim : Int} {b : Bv} (ys : List Int) (fr to : Int) (h : (b.1 : Int) = lim) : (addPB lim b ys fr to).1 = b.1 := by
  by_cases h1 : fr < 0 ∨ to ≤ fr ∨ (ys.length : Int) < to
  · rw [addPB_none h1]
  · rw [addPB_fits h1 (by omega)]
theorem findS_at (xs : List Int) (c to : Int) : ∀ (N : Nat) (k : Int), (to - k).toNat < N → findS xs c k to < to → atS xs (findS xs c k to) = c := by
  intro N
  induction N with
  | zero => intro k h; omega
  | succ N ih =>
    intro k h h1
    rw [findS] at h1 ⊢
    split at h1
    · next hk =>
      rw [dif_pos hk]
      split at h1
      · next h2 => rw [if_pos h2]; exact h2
      · next h2 => rw [if_neg h2]; exact ih (k + 1) (by omega) h1
    · omega
theorem findS_before (xs : List Int) (c to : Int) : ∀ (N : Nat) (k : Int), (to - k).toNat < N → ∀ j : Int, k ≤ j → j < findS xs c k to → ¬ atS xs j = c := by
  intro N
  induction N with
  | zero => intro k h; omega
  | succ N ih =>
    intro k h j h1 h2
    rw [findS] at h2
    split at h2
    · split at h2
      · omega
      · next h3 =>
        by_cases hj : j = k
        · rw [hj]; exact h3
        · exact ih (k + 1) (by omega) j (by omega) h2
    · have := findS_rng xs c k to
      omega
theorem nameL_ne {xs : List Int} {fr to : Int} (h : nameS xs fr to = true) : fr < to ∧ to - fr ≤ 60 := by
  unfold nameS at h
  split at h
  · cases h
  · refine ⟨?_, by omega⟩
    apply Decidable.byContradiction
    intro h1
    rw [nameL, dif_neg h1] at h
    simp at h
theorem locaS_ne {xs : List Int} {fr to : Int} (h : locaS xs fr to = true) : fr < to ∧ to - fr ≤ 30 := by
  unfold locaS at h
  split at h
  · cases h
  · omega
/-- the sender that a tape gives -/
def sndS (xs : List Int) (ad : Int32) : Option Snd := if locaS xs 0 (findS xs 64 0 xs.length) = true ∧ nameS xs (findS xs 64 0 xs.length + 1) xs.length = true then some (xs.take (findS xs 64 0 xs.length).toNat, xs.drop (findS xs 64 0 xs.length + 1).toNat, ad) else none
theorem sgb_id {c : Int} (h : -128 ≤ c ∧ c ≤ 127) : (c + 128) % 256 - 128 = c := by omega
theorem addB_app {lim : Int} {xs : List Int} {n : Nat} (c : Int) (h : (n : Int) = lim) (hl : (xs.length : Int) < lim) (hc : -128 ≤ c ∧ c ≤ 127) : addB lim (n, xs) c = (n, xs ++ [c]) := by
  rw [addB_fits (b := (n, xs)) (by show ¬ lim ≤ (xs.length : Int); omega) (by show ¬ n ≤ xs.length; omega), sgb_id hc]
theorem numS_len {v : Int} : (numS v).length ≤ 3 ∧ 1 ≤ (numS v).length := by
  unfold numS
  split <;> split <;> simp
theorem addNB_app {lim : Int} {xs : List Int} {n : Nat} {v : Int} (h : (n : Int) = lim) (hv : 0 ≤ v ∧ v ≤ 255) (hl : (xs.length : Int) + (numS v).length ≤ lim) : addNB lim (n, xs) v = (n, xs ++ numS v) := by
  unfold numS at hl ⊢
  unfold addNB
  by_cases h1 : 100 ≤ v
  · have h2 : 10 ≤ v := by omega
    rw [if_pos h1, if_pos h2] at hl ⊢
    rw [if_pos h1]
    simp at hl
    rw [addB_app _ h (by omega) (by omega), addB_app _ h (by simp; omega) (by omega), addB_app _ h (by simp; omega) (by omega)]
    simp [h2]
  · by_cases h2 : 10 ≤ v
    · rw [if_neg h1, if_pos h2] at hl ⊢
      rw [if_neg h1]
      simp at hl
      rw [addB_app _ h (by omega) (by omega), addB_app _ h (by simp; omega) (by omega)]
      simp [h2]
    · rw [if_neg h1, if_neg h2] at hl ⊢
      rw [if_neg h1]
      simp at hl
      rw [addB_app _ h (by omega) (by omega)]
      simp [h2]
theorem dotS_row {n : Nat} (h : (n : Int) = 15) (a : Int) : addNB 15 (addB 15 (addNB 15 (addB 15 (addNB 15 (addB 15 (addNB 15 (n, []) (a % 4294967296 / 16777216 % 256)) 46) (a % 4294967296 / 65536 % 256)) 46) (a % 4294967296 / 256 % 256)) 46) (a % 256) = (n, dotS a) := by
  have e1 : a % 4294967296 / 16777216 % 256 = a / 16777216 % 256 := by omega
  have e2 : a % 4294967296 / 65536 % 256 = a / 65536 % 256 := by omega
  have e3 : a % 4294967296 / 256 % 256 = a / 256 % 256 := by omega
  rw [e1, e2, e3]
  have l1 := numS_len (v := a / 16777216 % 256)
  have l2 := numS_len (v := a / 65536 % 256)
  have l3 := numS_len (v := a / 256 % 256)
  have l4 := numS_len (v := a % 256)
  rw [addNB_app h (by omega) (by simp; omega), addB_app _ h (by simp; omega) (by omega), addNB_app h (by omega) (by simp; omega), addB_app _ h (by simp; omega) (by omega), addNB_app h (by omega) (by simp; omega), addB_app _ h (by simp; omega) (by omega), addNB_app h (by omega) (by simp; omega)]
  unfold dotS
  simp
theorem zI_ushr0 (a : Int) : ((zI a).toUInt32 >>> ((zI 0).toUInt32 &&& Int32.toUInt32 31)).toInt32 = zI a := by
  have h0 : (zI 0).toUInt32 &&& Int32.toUInt32 31 = (0 : UInt32) := by decide +kernel
  rw [h0]
  apply Int32.toBitVec_inj.mp
  apply BitVec.eq_of_toNat_eq
  have h1 : ((zI a).toUInt32 >>> (0 : UInt32)).toInt32.toBitVec.toNat = ((zI a).toUInt32 >>> (0 : UInt32)).toNat := rfl
  rw [h1, UInt32.toNat_shiftRight]
  have h4 : (0 : UInt32).toNat % 32 = 0 := by decide +kernel
  rw [h4, Nat.shiftRight_eq_div_pow]
  have h2 : (zI a).toUInt32.toNat = (zI a).toBitVec.toNat := rfl
  rw [h2]
  omega
theorem addPB_app {lim : Int} {n : Nat} {ys : List Int} {fr to : Int} (h : 0 ≤ fr ∧ fr < to ∧ to ≤ ys.length) (hl : to - fr ≤ lim) : (addPB lim (n, []) ys fr to).2 = (ys.drop fr.toNat).take (to - fr).toNat := by
  rw [addPB_2 (b := (n, [])) ys fr to (by show ((0 : Nat) : Int) ≤ lim; omega), if_neg (by omega), List.nil_append, List.take_of_length_le]
  rw [List.length_take]
  omega
theorem sndS_rows {xs : List Int} (ad : Int32) (n1 n2 n3 : Nat) (hby : ∀ i : Int, -128 ≤ gx xs i ∧ gx xs i ≤ 127) (h1 : locaS xs 0 (findS xs 64 0 xs.length) = true) (h2 : nameS xs (findS xs 64 0 xs.length + 1) xs.length = true) :
    sndP (xs.take (findS xs 64 0 xs.length).toNat, xs.drop (findS xs 64 0 xs.length + 1).toNat, ad) ∧ (addPB 91 (n1, []) xs 0 xs.length).2 = xs.take (findS xs 64 0 xs.length).toNat ++ [64] ++ xs.drop (findS xs 64 0 xs.length + 1).toNat ∧ (addPB 30 (n2, []) xs 0 (findS xs 64 0 xs.length)).2 = xs.take (findS xs 64 0 xs.length).toNat ∧ (addPB 60 (n3, []) xs (findS xs 64 0 xs.length + 1) xs.length).2 = xs.drop (findS xs 64 0 xs.length + 1).toNat := by
  have e1 := nameL_ne h2
  have e2 := locaS_ne h1
  have e3 := findS_at xs 64 xs.length _ 0 (Nat.lt_succ_self _) (by omega)
  generalize hq : findS xs 64 0 xs.length = q at *
  have e4 : atS xs q = gx xs q % 256 := atS_gx (by omega)
  have e5 : gx xs q = 64 := by
    have := hby q
    omega
  have e6 : q.toNat < xs.length := by omega
  have e7 : (q + 1).toNat = q.toNat + 1 := by omega
  refine ⟨⟨?_, ?_, ?_, ?_⟩, ?_, ?_, ?_⟩
  · show 1 ≤ (xs.take q.toNat).length
    rw [List.length_take]
    omega
  · show (xs.take q.toNat).length ≤ 30
    rw [List.length_take]
    omega
  · show 1 ≤ (xs.drop (q + 1).toNat).length
    rw [List.length_drop]
    omega
  · show (xs.drop (q + 1).toNat).length ≤ 60
    rw [List.length_drop]
    omega
  · rw [addPB_app (by omega) (by omega)]
    have e8 : (xs.drop (0 : Int).toNat).take ((xs.length : Int) - 0).toNat = xs := List.take_of_length_le (by rw [List.length_drop]; omega)
    rw [e8, e7]
    have e9 : xs.drop q.toNat = 64 :: xs.drop (q.toNat + 1) := by
      rw [List.drop_eq_getElem_cons e6]
      unfold gx at e5
      rw [gD_lt e6] at e5
      rw [e5]
    have e10 := List.take_append_drop q.toNat xs
    rw [e9] at e10
    rw [List.append_assoc]
    exact e10.symm
  · rw [addPB_app (by omega) (by omega)]
    show (xs.take (q - 0).toNat) = _
    rw [Int.sub_zero]
  · rw [addPB_app (by omega) (by omega), List.take_of_length_le]
    rw [List.length_drop]
    omega
end
section
set_option maxHeartbeats 4000000 in
set_option maxRecDepth 100000 in
theorem c_By_addNumber {l : Launch} {D : Dg} {b0 : Nat} {M : Mp} {a : Nat} {v : Int} {t : Nat} {lim : Int} {b : Bv} (h_B_a : IsB D M a t lim b) (hv : 0 ≤ v ∧ v ≤ 255) : Ok l D b0 4 y_By_addNumber b_By_addNumber 2 none M [.ref a, vI v] (psi lim (addNB lim b v) - psi lim b) (psi lim (addNB lim b v) - psi lim b) (fun r M' => r = none ∧ IsB D M' a t lim (addNB lim b v) ∧ Fr [t, t + 1] M M') := by
  rcases (show 100 ≤ v ∨ (10 ≤ v ∧ v < 100) ∨ v < 10 by omega) with hv1 | hv1 | hv1
  · refine Ok_of rfl (Nat.le_of_ble_eq_true rfl) (fun E hC hQ hl hD hB hN hR => ?_)
    subst hl hD hB
    have hB9 := h_B_a.len
    have hE : addNB lim b v = addB lim (addB lim (addB lim b (48 + v / 100)) (48 + v / 10 % 10)) (48 + v % 10) := by unfold addNB; rw [if_pos (show 10 ≤ v by omega), if_pos (show 100 ≤ v by omega)]
    have hp1 := psi_addB (lim := lim) (b := b) (48 + v / 100) ⟨by omega, by omega⟩
    have hp2 := psi_addB (48 + v / 10 % 10) hp1.2
    have hp3 := psi_addB (48 + v % 10) hp2.2
    rw [hE] at hQ hR
    show G E M 0 0 [(0, .ref a), (1, vI v)] [] 0
    refine G_iload_n hC 1 rfl rfl d_By_addNumber_0 ?_
    refine G_bipush (j := 100) hC (by decide +kernel) d_By_addNumber_1 ?_
    refine G_icmp_lt hC 17 (by omega) (by decide) (by decide) d_By_addNumber_3 (fun c_1 => ?_) (fun c_1 => ?_)
    · exact (show False from by omega).elim
    · refine G_aload_n hC 0 rfl rfl d_By_addNumber_6 ?_
      refine G_bipush (j := 48) hC (by decide +kernel) d_By_addNumber_7 ?_
      refine G_iload_n hC 1 rfl rfl d_By_addNumber_9 ?_
      refine G_bipush (j := 100) hC (by decide +kernel) d_By_addNumber_10 ?_
      refine G_idiv hC (by omega) (by omega) d_By_addNumber_12 ?_
      refine G_iadd hC d_By_addNumber_13 ?_
      refine G_xV (rest := []) hC hR (c_By_add h_B_a (by omega)) cv_By_32 h_B_a.obj (by decide) (by omega) (by omega) rfl rfl (Nat.le_of_ble_eq_true rfl) d_By_addNumber_14 (fun r_4 M_2 p_3 => ?_)
      obtain ⟨rfl, h_5, fr_6⟩ := p_3
      show G E M_2 (0 + (psi lim (addB lim b (48 + (v / 100))) - psi lim b)) (0 + (psi lim (addB lim b (48 + (v / 100))) - psi lim b)) [(0, .ref a), (1, vI v)] [] 17
      have g_7 := psi_addB (lim := lim) (b := b) (48 + (v / 100)) ⟨h_B_a.len.1, h_B_a.len.2.1⟩
      refine G_iload_n hC 1 rfl rfl d_By_addNumber_17 ?_
      refine G_bipush (j := 10) hC (by decide +kernel) d_By_addNumber_18 ?_
      refine G_icmp_lt hC 37 (by omega) (by decide) (by decide) d_By_addNumber_20 (fun c_8 => ?_) (fun c_8 => ?_)
      · exact (show False from by omega).elim
      · refine G_aload_n hC 0 rfl rfl d_By_addNumber_23 ?_
        refine G_bipush (j := 48) hC (by decide +kernel) d_By_addNumber_24 ?_
        refine G_iload_n hC 1 rfl rfl d_By_addNumber_26 ?_
        refine G_bipush (j := 10) hC (by decide +kernel) d_By_addNumber_27 ?_
        refine G_idiv hC (by omega) (by omega) d_By_addNumber_29 ?_
        refine G_bipush (j := 10) hC (by decide +kernel) d_By_addNumber_30 ?_
        refine G_irem hC (by omega) (by omega) d_By_addNumber_32 ?_
        refine G_iadd hC d_By_addNumber_33 ?_
        refine G_xV (rest := []) hC hR (c_By_add h_5 (by omega)) cv_By_32 h_5.obj (by decide) (by omega) (by omega) rfl rfl (Nat.le_of_ble_eq_true rfl) d_By_addNumber_34 (fun r_11 M_9 p_10 => ?_)
        obtain ⟨rfl, h_12, fr_13⟩ := p_10
        show G E M_9 (0 + (psi lim (addB lim b (48 + (v / 100))) - psi lim b) + (psi lim (addB lim (addB lim b (48 + (v / 100))) (48 + ((v / 10) % 10))) - psi lim (addB lim b (48 + (v / 100))))) (0 + (psi lim (addB lim b (48 + (v / 100))) - psi lim b) + (psi lim (addB lim (addB lim b (48 + (v / 100))) (48 + ((v / 10) % 10))) - psi lim (addB lim b (48 + (v / 100))))) [(0, .ref a), (1, vI v)] [] 37
        have g_14 := psi_addB (lim := lim) (b := (addB lim b (48 + (v / 100)))) (48 + ((v / 10) % 10)) ⟨h_5.len.1, h_5.len.2.1⟩
        refine G_aload_n hC 0 rfl rfl d_By_addNumber_37 ?_
        refine G_bipush (j := 48) hC (by decide +kernel) d_By_addNumber_38 ?_
        refine G_iload_n hC 1 rfl rfl d_By_addNumber_40 ?_
        refine G_bipush (j := 10) hC (by decide +kernel) d_By_addNumber_41 ?_
        refine G_irem hC (by omega) (by omega) d_By_addNumber_43 ?_
        refine G_iadd hC d_By_addNumber_44 ?_
        refine G_xV (rest := []) hC hR (c_By_add h_12 (by omega)) cv_By_32 h_12.obj (by decide) (by omega) (by omega) rfl rfl (Nat.le_of_ble_eq_true rfl) d_By_addNumber_45 (fun r_17 M_15 p_16 => ?_)
        obtain ⟨rfl, h_18, fr_19⟩ := p_16
        show G E M_15 (0 + (psi lim (addB lim b (48 + (v / 100))) - psi lim b) + (psi lim (addB lim (addB lim b (48 + (v / 100))) (48 + ((v / 10) % 10))) - psi lim (addB lim b (48 + (v / 100)))) + (psi lim (addB lim (addB lim (addB lim b (48 + (v / 100))) (48 + ((v / 10) % 10))) (48 + (v % 10))) - psi lim (addB lim (addB lim b (48 + (v / 100))) (48 + ((v / 10) % 10))))) (0 + (psi lim (addB lim b (48 + (v / 100))) - psi lim b) + (psi lim (addB lim (addB lim b (48 + (v / 100))) (48 + ((v / 10) % 10))) - psi lim (addB lim b (48 + (v / 100)))) + (psi lim (addB lim (addB lim (addB lim b (48 + (v / 100))) (48 + ((v / 10) % 10))) (48 + (v % 10))) - psi lim (addB lim (addB lim b (48 + (v / 100))) (48 + ((v / 10) % 10))))) [(0, .ref a), (1, vI v)] [] 48
        have g_20 := psi_addB (lim := lim) (b := (addB lim (addB lim b (48 + (v / 100))) (48 + ((v / 10) % 10)))) (48 + (v % 10)) ⟨h_12.len.1, h_12.len.2.1⟩
        exact G_return hC hQ (by omega) (by omega) d_By_addNumber_48 ⟨rfl, h_18, (((fr_6.up (T := [t, t + 1]) (by simp)).tr' (T := [t, t + 1]) fr_13 (fun _ z => z) (by simp)).tr' (T := [t, t + 1]) fr_19 (fun _ z => z) (by simp))⟩
  · refine Ok_of rfl (Nat.le_of_ble_eq_true rfl) (fun E hC hQ hl hD hB hN hR => ?_)
    subst hl hD hB
    have hB9 := h_B_a.len
    have hE : addNB lim b v = addB lim (addB lim b (48 + v / 10 % 10)) (48 + v % 10) := by unfold addNB; rw [if_pos (show 10 ≤ v by omega), if_neg (show ¬ 100 ≤ v by omega)]
    have hp1 := psi_addB (lim := lim) (b := b) (48 + v / 10 % 10) ⟨by omega, by omega⟩
    have hp2 := psi_addB (48 + v % 10) hp1.2
    rw [hE] at hQ hR
    show G E M 0 0 [(0, .ref a), (1, vI v)] [] 0
    refine G_iload_n hC 1 rfl rfl d_By_addNumber_0 ?_
    refine G_bipush (j := 100) hC (by decide +kernel) d_By_addNumber_1 ?_
    refine G_icmp_lt hC 17 (by omega) (by decide) (by decide) d_By_addNumber_3 (fun c_21 => ?_) (fun c_21 => ?_)
    · refine G_iload_n hC 1 rfl rfl d_By_addNumber_17 ?_
      refine G_bipush (j := 10) hC (by decide +kernel) d_By_addNumber_18 ?_
      refine G_icmp_lt hC 37 (by omega) (by decide) (by decide) d_By_addNumber_20 (fun c_22 => ?_) (fun c_22 => ?_)
      · exact (show False from by omega).elim
      · refine G_aload_n hC 0 rfl rfl d_By_addNumber_23 ?_
        refine G_bipush (j := 48) hC (by decide +kernel) d_By_addNumber_24 ?_
        refine G_iload_n hC 1 rfl rfl d_By_addNumber_26 ?_
        refine G_bipush (j := 10) hC (by decide +kernel) d_By_addNumber_27 ?_
        refine G_idiv hC (by omega) (by omega) d_By_addNumber_29 ?_
        refine G_bipush (j := 10) hC (by decide +kernel) d_By_addNumber_30 ?_
        refine G_irem hC (by omega) (by omega) d_By_addNumber_32 ?_
        refine G_iadd hC d_By_addNumber_33 ?_
        refine G_xV (rest := []) hC hR (c_By_add h_B_a (by omega)) cv_By_32 h_B_a.obj (by decide) (by omega) (by omega) rfl rfl (Nat.le_of_ble_eq_true rfl) d_By_addNumber_34 (fun r_25 M_23 p_24 => ?_)
        obtain ⟨rfl, h_26, fr_27⟩ := p_24
        show G E M_23 (0 + (psi lim (addB lim b (48 + ((v / 10) % 10))) - psi lim b)) (0 + (psi lim (addB lim b (48 + ((v / 10) % 10))) - psi lim b)) [(0, .ref a), (1, vI v)] [] 37
        have g_28 := psi_addB (lim := lim) (b := b) (48 + ((v / 10) % 10)) ⟨h_B_a.len.1, h_B_a.len.2.1⟩
        refine G_aload_n hC 0 rfl rfl d_By_addNumber_37 ?_
        refine G_bipush (j := 48) hC (by decide +kernel) d_By_addNumber_38 ?_
        refine G_iload_n hC 1 rfl rfl d_By_addNumber_40 ?_
        refine G_bipush (j := 10) hC (by decide +kernel) d_By_addNumber_41 ?_
        refine G_irem hC (by omega) (by omega) d_By_addNumber_43 ?_
        refine G_iadd hC d_By_addNumber_44 ?_
        refine G_xV (rest := []) hC hR (c_By_add h_26 (by omega)) cv_By_32 h_26.obj (by decide) (by omega) (by omega) rfl rfl (Nat.le_of_ble_eq_true rfl) d_By_addNumber_45 (fun r_31 M_29 p_30 => ?_)
        obtain ⟨rfl, h_32, fr_33⟩ := p_30
        show G E M_29 (0 + (psi lim (addB lim b (48 + ((v / 10) % 10))) - psi lim b) + (psi lim (addB lim (addB lim b (48 + ((v / 10) % 10))) (48 + (v % 10))) - psi lim (addB lim b (48 + ((v / 10) % 10))))) (0 + (psi lim (addB lim b (48 + ((v / 10) % 10))) - psi lim b) + (psi lim (addB lim (addB lim b (48 + ((v / 10) % 10))) (48 + (v % 10))) - psi lim (addB lim b (48 + ((v / 10) % 10))))) [(0, .ref a), (1, vI v)] [] 48
        have g_34 := psi_addB (lim := lim) (b := (addB lim b (48 + ((v / 10) % 10)))) (48 + (v % 10)) ⟨h_26.len.1, h_26.len.2.1⟩
        exact G_return hC hQ (by omega) (by omega) d_By_addNumber_48 ⟨rfl, h_32, ((fr_27.up (T := [t, t + 1]) (by simp)).tr' (T := [t, t + 1]) fr_33 (fun _ z => z) (by simp))⟩
    · exact (show False from by omega).elim
  · refine Ok_of rfl (Nat.le_of_ble_eq_true rfl) (fun E hC hQ hl hD hB hN hR => ?_)
    subst hl hD hB
    have hB9 := h_B_a.len
    have hE : addNB lim b v = addB lim b (48 + v % 10) := by unfold addNB; rw [if_neg (show ¬ 10 ≤ v by omega), if_neg (show ¬ 100 ≤ v by omega)]
    have hp1 := psi_addB (lim := lim) (b := b) (48 + v % 10) ⟨by omega, by omega⟩
    rw [hE] at hQ hR
    show G E M 0 0 [(0, .ref a), (1, vI v)] [] 0
    refine G_iload_n hC 1 rfl rfl d_By_addNumber_0 ?_
    refine G_bipush (j := 100) hC (by decide +kernel) d_By_addNumber_1 ?_
    refine G_icmp_lt hC 17 (by omega) (by decide) (by decide) d_By_addNumber_3 (fun c_35 => ?_) (fun c_35 => ?_)
    · refine G_iload_n hC 1 rfl rfl d_By_addNumber_17 ?_
      refine G_bipush (j := 10) hC (by decide +kernel) d_By_addNumber_18 ?_
      refine G_icmp_lt hC 37 (by omega) (by decide) (by decide) d_By_addNumber_20 (fun c_36 => ?_) (fun c_36 => ?_)
      · refine G_aload_n hC 0 rfl rfl d_By_addNumber_37 ?_
        refine G_bipush (j := 48) hC (by decide +kernel) d_By_addNumber_38 ?_
        refine G_iload_n hC 1 rfl rfl d_By_addNumber_40 ?_
        refine G_bipush (j := 10) hC (by decide +kernel) d_By_addNumber_41 ?_
        refine G_irem hC (by omega) (by omega) d_By_addNumber_43 ?_
        refine G_iadd hC d_By_addNumber_44 ?_
        refine G_xV (rest := []) hC hR (c_By_add h_B_a (by omega)) cv_By_32 h_B_a.obj (by decide) (by omega) (by omega) rfl rfl (Nat.le_of_ble_eq_true rfl) d_By_addNumber_45 (fun r_39 M_37 p_38 => ?_)
        obtain ⟨rfl, h_40, fr_41⟩ := p_38
        show G E M_37 (0 + (psi lim (addB lim b (48 + (v % 10))) - psi lim b)) (0 + (psi lim (addB lim b (48 + (v % 10))) - psi lim b)) [(0, .ref a), (1, vI v)] [] 48
        have g_42 := psi_addB (lim := lim) (b := b) (48 + (v % 10)) ⟨h_B_a.len.1, h_B_a.len.2.1⟩
        exact G_return hC hQ (by omega) (by omega) d_By_addNumber_48 ⟨rfl, h_40, (fr_41.up (T := [t, t + 1]) (by simp))⟩
      · exact (show False from by omega).elim
    · exact (show False from by omega).elim

set_option maxHeartbeats 4000000 in
set_option maxRecDepth 100000 in
theorem c_Se_writeDotted {l : Launch} {D : Dg} {b0 : Nat} {M : Mp} {a : Nat} {m : Nat} {l0 : Nat} {d0 : Nat} {e : Nat} {ad : Int32} {be : Bv} (h_obj_a : M a = some (8, .inr (cSe, [.ref m, .ref l0, .ref d0, .ref e, .int ad]))) (h_B_e : IsB D M e 15 15 be) (hbe : (be.1 : Int) = 15) : Ok l D b0 5 y_Se_writeDotted b_Se_writeDotted 2 none M [.ref a] 0 0 (fun r M' => r = none ∧ IsB D M' e 15 15 (be.1, dotS ad.toInt) ∧ Fr [15, 16] M M') := by
  refine Ok_of rfl (Nat.le_of_ble_eq_true rfl) (fun E hC hQ hl hD hB hN hR => ?_)
  subst hl hD hB
  have hB9 := h_B_e.len
  have hp0 : psi 15 (be.1, ([] : List Int)) = psi 15 be := rfl
  have hp1 := psi_addNB 15 (be.1, ([] : List Int)) (ad.toInt % 4294967296 / 16777216 % 256) ⟨Nat.zero_le _, by omega⟩
  have hp2 := psi_addB 46 hp1.2
  have hp3 := psi_addNB 15 _ (ad.toInt % 4294967296 / 65536 % 256) hp2.2
  have hp4 := psi_addB 46 hp3.2
  have hp5 := psi_addNB 15 _ (ad.toInt % 4294967296 / 256 % 256) hp4.2
  have hp6 := psi_addB 46 hp5.2
  have hp7 := psi_addNB 15 _ (ad.toInt % 256) hp6.2
  have hE : addNB 15 (addB 15 (addNB 15 (addB 15 (addNB 15 (addB 15 (addNB 15 (be.1, ([] : List Int)) (ad.toInt % 4294967296 / 16777216 % 256)) 46) (ad.toInt % 4294967296 / 65536 % 256)) 46) (ad.toInt % 4294967296 / 256 % 256)) 46) (ad.toInt % 256) = (be.1, dotS ad.toInt) := dotS_row (by omega) ad.toInt
  have hp8 : psi 15 (addNB 15 (addB 15 (addNB 15 (addB 15 (addNB 15 (addB 15 (addNB 15 (be.1, ([] : List Int)) (ad.toInt % 4294967296 / 16777216 % 256)) 46) (ad.toInt % 4294967296 / 65536 % 256)) 46) (ad.toInt % 4294967296 / 256 % 256)) 46) (ad.toInt % 256)) = psi 15 be := by rw [hE]; rfl
  show G E M 0 0 [(0, .ref a)] [] 0
  refine G_aload_n hC 0 rfl rfl d_Se_writeDotted_0 ?_
  refine G_get hC fl_Se_26 h_obj_a rfl d_Se_writeDotted_1 ?_
  refine G_iconst (i := 0) hC d_Se_writeDotted_4 ?_
  refine G_xV (rest := []) hC hR (c_By_cut h_B_e (by omega)) cv_Se_57 h_B_e.obj (by decide) (by omega) (by omega) rfl rfl (Nat.le_of_ble_eq_true rfl) d_Se_writeDotted_5 (fun r_3 M_1 p_2 => ?_)
  obtain ⟨rfl, h_4, fr_5⟩ := p_2
  show G E M_1 (0 + 0) (0 + 0) [(0, .ref a)] [] 8
  refine G_bipush (j := 24) hC (by decide +kernel) d_Se_writeDotted_8 ?_
  refine G_istore_n (lv' := [(1, vI 24), (0, .ref a)]) hC rfl (by rw [hN]; decide) rfl d_Se_writeDotted_10 ?_
  refine G_iload_n hC 0 rfl rfl d_Se_writeDotted_11 ?_
  refine G_if_lt hC 51 (by decide) (by decide) d_Se_writeDotted_12 (fun c_6 => ?_) (fun c_6 => ?_)
  · exact (show False from by omega).elim
  · refine G_aload_n hC 1 rfl rfl d_Se_writeDotted_15 ?_
    have h_7 := fr_5.at h_obj_a (by simp only [List.mem_cons, List.not_mem_nil, or_false, not_or, not_false_eq_true]; try omega)
    refine G_get hC fl_Se_26 h_7 rfl d_Se_writeDotted_16 ?_
    refine G_aload_n hC 1 rfl rfl d_Se_writeDotted_19 ?_
    refine G_get hC fl_Se_29 h_7 rfl d_Se_writeDotted_20 ?_
    refine G_X2I ?_
    have g_8 := zI_rng ad
    refine G_iload_n hC 0 rfl rfl d_Se_writeDotted_23 ?_
    refine G_iushr hC (zI_ushr24 _) d_Se_writeDotted_24 ?_
    refine G_sipush (j := 255) hC (by decide +kernel) d_Se_writeDotted_25 ?_
    refine G_iand255 hC (by omega) d_Se_writeDotted_28 ?_
    have h_9 : IsB (eD E) M_1 e 15 15 (be.1, ([] : List Int)) := by rw [← cut0 be]; exact h_4
    refine G_xV (rest := []) hC hR (c_By_addNumber h_9 (by omega)) cv_Se_64 h_9.obj (by decide) (by omega) (by omega) rfl rfl (Nat.le_of_ble_eq_true rfl) d_Se_writeDotted_29 (fun r_12 M_10 p_11 => ?_)
    obtain ⟨rfl, h_13, fr_14⟩ := p_11
    show G E M_10 (0 + 0 + (psi 15 (addNB 15 (be.1, ([] : List Int)) ((ad.toInt % 4294967296 / 16777216) % 256)) - psi 15 (be.1, ([] : List Int)))) (0 + 0 + (psi 15 (addNB 15 (be.1, ([] : List Int)) ((ad.toInt % 4294967296 / 16777216) % 256)) - psi 15 (be.1, ([] : List Int)))) [(1, vI 24), (0, .ref a)] [] 32
    have g_15 := psi_addNB 15 (be.1, ([] : List Int)) ((ad.toInt % 4294967296 / 16777216) % 256) ⟨h_9.len.1, h_9.len.2.1⟩
    refine G_iload_n hC 0 rfl rfl d_Se_writeDotted_32 ?_
    refine G_if_le hC 45 (by decide) (by decide) d_Se_writeDotted_33 (fun c_16 => ?_) (fun c_16 => ?_)
    · exact (show False from by omega).elim
    · refine G_aload_n hC 1 rfl rfl d_Se_writeDotted_36 ?_
      have h_17 := fr_14.at h_7 (by simp only [List.mem_cons, List.not_mem_nil, or_false, not_or, not_false_eq_true]; try omega)
      refine G_get hC fl_Se_26 h_17 rfl d_Se_writeDotted_37 ?_
      refine G_bipush (j := 46) hC (by decide +kernel) d_Se_writeDotted_40 ?_
      refine G_xV (rest := []) hC hR (c_By_add h_13 (by omega)) cv_Se_67 h_13.obj (by decide) (by omega) (by omega) rfl rfl (Nat.le_of_ble_eq_true rfl) d_Se_writeDotted_42 (fun r_20 M_18 p_19 => ?_)
      obtain ⟨rfl, h_21, fr_22⟩ := p_19
      show G E M_18 (0 + 0 + (psi 15 (addNB 15 (be.1, ([] : List Int)) ((ad.toInt % 4294967296 / 16777216) % 256)) - psi 15 (be.1, ([] : List Int))) + (psi 15 (addB 15 (addNB 15 (be.1, ([] : List Int)) ((ad.toInt % 4294967296 / 16777216) % 256)) 46) - psi 15 (addNB 15 (be.1, ([] : List Int)) ((ad.toInt % 4294967296 / 16777216) % 256)))) (0 + 0 + (psi 15 (addNB 15 (be.1, ([] : List Int)) ((ad.toInt % 4294967296 / 16777216) % 256)) - psi 15 (be.1, ([] : List Int))) + (psi 15 (addB 15 (addNB 15 (be.1, ([] : List Int)) ((ad.toInt % 4294967296 / 16777216) % 256)) 46) - psi 15 (addNB 15 (be.1, ([] : List Int)) ((ad.toInt % 4294967296 / 16777216) % 256)))) [(1, vI 24), (0, .ref a)] [] 45
      have g_23 := psi_addB (lim := 15) (b := (addNB 15 (be.1, ([] : List Int)) ((ad.toInt % 4294967296 / 16777216) % 256))) 46 ⟨h_13.len.1, h_13.len.2.1⟩
      refine G_iinc (lv' := [(1, vI (24 + (-8))), (0, .ref a)]) hC 0 rfl (by rw [hN]; decide) rfl d_Se_writeDotted_45 ?_
      show G E M_18 (0 + 0 + (psi 15 (addNB 15 (be.1, ([] : List Int)) ((ad.toInt % 4294967296 / 16777216) % 256)) - psi 15 (be.1, ([] : List Int))) + (psi 15 (addB 15 (addNB 15 (be.1, ([] : List Int)) ((ad.toInt % 4294967296 / 16777216) % 256)) 46) - psi 15 (addNB 15 (be.1, ([] : List Int)) ((ad.toInt % 4294967296 / 16777216) % 256)))) (0 + 0 + (psi 15 (addNB 15 (be.1, ([] : List Int)) ((ad.toInt % 4294967296 / 16777216) % 256)) - psi 15 (be.1, ([] : List Int))) + (psi 15 (addB 15 (addNB 15 (be.1, ([] : List Int)) ((ad.toInt % 4294967296 / 16777216) % 256)) 46) - psi 15 (addNB 15 (be.1, ([] : List Int)) ((ad.toInt % 4294967296 / 16777216) % 256)))) [(1, vI 16), (0, .ref a)] [] 48
      refine G_goto hC 11 (by decide) d_Se_writeDotted_48 ?_
      refine G_iload_n hC 0 rfl rfl d_Se_writeDotted_11 ?_
      refine G_if_lt hC 51 (by decide) (by decide) d_Se_writeDotted_12 (fun c_24 => ?_) (fun c_24 => ?_)
      · exact (show False from by omega).elim
      · refine G_aload_n hC 1 rfl rfl d_Se_writeDotted_15 ?_
        have h_25 := fr_22.at h_17 (by simp only [List.mem_cons, List.not_mem_nil, or_false, not_or, not_false_eq_true]; try omega)
        refine G_get hC fl_Se_26 h_25 rfl d_Se_writeDotted_16 ?_
        refine G_aload_n hC 1 rfl rfl d_Se_writeDotted_19 ?_
        refine G_get hC fl_Se_29 h_25 rfl d_Se_writeDotted_20 ?_
        refine G_X2I ?_
        have g_26 := zI_rng ad
        refine G_iload_n hC 0 rfl rfl d_Se_writeDotted_23 ?_
        refine G_iushr hC (zI_ushr16 _) d_Se_writeDotted_24 ?_
        refine G_sipush (j := 255) hC (by decide +kernel) d_Se_writeDotted_25 ?_
        refine G_iand255 hC (by omega) d_Se_writeDotted_28 ?_
        refine G_xV (rest := []) hC hR (c_By_addNumber h_21 (by omega)) cv_Se_64 h_21.obj (by decide) (by omega) (by omega) rfl rfl (Nat.le_of_ble_eq_true rfl) d_Se_writeDotted_29 (fun r_29 M_27 p_28 => ?_)
        obtain ⟨rfl, h_30, fr_31⟩ := p_28
        show G E M_27 (0 + 0 + (psi 15 (addNB 15 (be.1, ([] : List Int)) ((ad.toInt % 4294967296 / 16777216) % 256)) - psi 15 (be.1, ([] : List Int))) + (psi 15 (addB 15 (addNB 15 (be.1, ([] : List Int)) ((ad.toInt % 4294967296 / 16777216) % 256)) 46) - psi 15 (addNB 15 (be.1, ([] : List Int)) ((ad.toInt % 4294967296 / 16777216) % 256))) + (psi 15 (addNB 15 (addB 15 (addNB 15 (be.1, ([] : List Int)) ((ad.toInt % 4294967296 / 16777216) % 256)) 46) ((ad.toInt % 4294967296 / 65536) % 256)) - psi 15 (addB 15 (addNB 15 (be.1, ([] : List Int)) ((ad.toInt % 4294967296 / 16777216) % 256)) 46))) (0 + 0 + (psi 15 (addNB 15 (be.1, ([] : List Int)) ((ad.toInt % 4294967296 / 16777216) % 256)) - psi 15 (be.1, ([] : List Int))) + (psi 15 (addB 15 (addNB 15 (be.1, ([] : List Int)) ((ad.toInt % 4294967296 / 16777216) % 256)) 46) - psi 15 (addNB 15 (be.1, ([] : List Int)) ((ad.toInt % 4294967296 / 16777216) % 256))) + (psi 15 (addNB 15 (addB 15 (addNB 15 (be.1, ([] : List Int)) ((ad.toInt % 4294967296 / 16777216) % 256)) 46) ((ad.toInt % 4294967296 / 65536) % 256)) - psi 15 (addB 15 (addNB 15 (be.1, ([] : List Int)) ((ad.toInt % 4294967296 / 16777216) % 256)) 46))) [(1, vI 16), (0, .ref a)] [] 32
        have g_32 := psi_addNB 15 (addB 15 (addNB 15 (be.1, ([] : List Int)) ((ad.toInt % 4294967296 / 16777216) % 256)) 46) ((ad.toInt % 4294967296 / 65536) % 256) ⟨h_21.len.1, h_21.len.2.1⟩
        refine G_iload_n hC 0 rfl rfl d_Se_writeDotted_32 ?_
        refine G_if_le hC 45 (by decide) (by decide) d_Se_writeDotted_33 (fun c_33 => ?_) (fun c_33 => ?_)
        · exact (show False from by omega).elim
        · refine G_aload_n hC 1 rfl rfl d_Se_writeDotted_36 ?_
          have h_34 := fr_31.at h_25 (by simp only [List.mem_cons, List.not_mem_nil, or_false, not_or, not_false_eq_true]; try omega)
          refine G_get hC fl_Se_26 h_34 rfl d_Se_writeDotted_37 ?_
          refine G_bipush (j := 46) hC (by decide +kernel) d_Se_writeDotted_40 ?_
          refine G_xV (rest := []) hC hR (c_By_add h_30 (by omega)) cv_Se_67 h_30.obj (by decide) (by omega) (by omega) rfl rfl (Nat.le_of_ble_eq_true rfl) d_Se_writeDotted_42 (fun r_37 M_35 p_36 => ?_)
          obtain ⟨rfl, h_38, fr_39⟩ := p_36
          show G E M_35 (0 + 0 + (psi 15 (addNB 15 (be.1, ([] : List Int)) ((ad.toInt % 4294967296 / 16777216) % 256)) - psi 15 (be.1, ([] : List Int))) + (psi 15 (addB 15 (addNB 15 (be.1, ([] : List Int)) ((ad.toInt % 4294967296 / 16777216) % 256)) 46) - psi 15 (addNB 15 (be.1, ([] : List Int)) ((ad.toInt % 4294967296 / 16777216) % 256))) + (psi 15 (addNB 15 (addB 15 (addNB 15 (be.1, ([] : List Int)) ((ad.toInt % 4294967296 / 16777216) % 256)) 46) ((ad.toInt % 4294967296 / 65536) % 256)) - psi 15 (addB 15 (addNB 15 (be.1, ([] : List Int)) ((ad.toInt % 4294967296 / 16777216) % 256)) 46)) + (psi 15 (addB 15 (addNB 15 (addB 15 (addNB 15 (be.1, ([] : List Int)) ((ad.toInt % 4294967296 / 16777216) % 256)) 46) ((ad.toInt % 4294967296 / 65536) % 256)) 46) - psi 15 (addNB 15 (addB 15 (addNB 15 (be.1, ([] : List Int)) ((ad.toInt % 4294967296 / 16777216) % 256)) 46) ((ad.toInt % 4294967296 / 65536) % 256)))) (0 + 0 + (psi 15 (addNB 15 (be.1, ([] : List Int)) ((ad.toInt % 4294967296 / 16777216) % 256)) - psi 15 (be.1, ([] : List Int))) + (psi 15 (addB 15 (addNB 15 (be.1, ([] : List Int)) ((ad.toInt % 4294967296 / 16777216) % 256)) 46) - psi 15 (addNB 15 (be.1, ([] : List Int)) ((ad.toInt % 4294967296 / 16777216) % 256))) + (psi 15 (addNB 15 (addB 15 (addNB 15 (be.1, ([] : List Int)) ((ad.toInt % 4294967296 / 16777216) % 256)) 46) ((ad.toInt % 4294967296 / 65536) % 256)) - psi 15 (addB 15 (addNB 15 (be.1, ([] : List Int)) ((ad.toInt % 4294967296 / 16777216) % 256)) 46)) + (psi 15 (addB 15 (addNB 15 (addB 15 (addNB 15 (be.1, ([] : List Int)) ((ad.toInt % 4294967296 / 16777216) % 256)) 46) ((ad.toInt % 4294967296 / 65536) % 256)) 46) - psi 15 (addNB 15 (addB 15 (addNB 15 (be.1, ([] : List Int)) ((ad.toInt % 4294967296 / 16777216) % 256)) 46) ((ad.toInt % 4294967296 / 65536) % 256)))) [(1, vI 16), (0, .ref a)] [] 45
          have g_40 := psi_addB (lim := 15) (b := (addNB 15 (addB 15 (addNB 15 (be.1, ([] : List Int)) ((ad.toInt % 4294967296 / 16777216) % 256)) 46) ((ad.toInt % 4294967296 / 65536) % 256))) 46 ⟨h_30.len.1, h_30.len.2.1⟩
          refine G_iinc (lv' := [(1, vI (16 + (-8))), (0, .ref a)]) hC 0 rfl (by rw [hN]; decide) rfl d_Se_writeDotted_45 ?_
          show G E M_35 (0 + 0 + (psi 15 (addNB 15 (be.1, ([] : List Int)) ((ad.toInt % 4294967296 / 16777216) % 256)) - psi 15 (be.1, ([] : List Int))) + (psi 15 (addB 15 (addNB 15 (be.1, ([] : List Int)) ((ad.toInt % 4294967296 / 16777216) % 256)) 46) - psi 15 (addNB 15 (be.1, ([] : List Int)) ((ad.toInt % 4294967296 / 16777216) % 256))) + (psi 15 (addNB 15 (addB 15 (addNB 15 (be.1, ([] : List Int)) ((ad.toInt % 4294967296 / 16777216) % 256)) 46) ((ad.toInt % 4294967296 / 65536) % 256)) - psi 15 (addB 15 (addNB 15 (be.1, ([] : List Int)) ((ad.toInt % 4294967296 / 16777216) % 256)) 46)) + (psi 15 (addB 15 (addNB 15 (addB 15 (addNB 15 (be.1, ([] : List Int)) ((ad.toInt % 4294967296 / 16777216) % 256)) 46) ((ad.toInt % 4294967296 / 65536) % 256)) 46) - psi 15 (addNB 15 (addB 15 (addNB 15 (be.1, ([] : List Int)) ((ad.toInt % 4294967296 / 16777216) % 256)) 46) ((ad.toInt % 4294967296 / 65536) % 256)))) (0 + 0 + (psi 15 (addNB 15 (be.1, ([] : List Int)) ((ad.toInt % 4294967296 / 16777216) % 256)) - psi 15 (be.1, ([] : List Int))) + (psi 15 (addB 15 (addNB 15 (be.1, ([] : List Int)) ((ad.toInt % 4294967296 / 16777216) % 256)) 46) - psi 15 (addNB 15 (be.1, ([] : List Int)) ((ad.toInt % 4294967296 / 16777216) % 256))) + (psi 15 (addNB 15 (addB 15 (addNB 15 (be.1, ([] : List Int)) ((ad.toInt % 4294967296 / 16777216) % 256)) 46) ((ad.toInt % 4294967296 / 65536) % 256)) - psi 15 (addB 15 (addNB 15 (be.1, ([] : List Int)) ((ad.toInt % 4294967296 / 16777216) % 256)) 46)) + (psi 15 (addB 15 (addNB 15 (addB 15 (addNB 15 (be.1, ([] : List Int)) ((ad.toInt % 4294967296 / 16777216) % 256)) 46) ((ad.toInt % 4294967296 / 65536) % 256)) 46) - psi 15 (addNB 15 (addB 15 (addNB 15 (be.1, ([] : List Int)) ((ad.toInt % 4294967296 / 16777216) % 256)) 46) ((ad.toInt % 4294967296 / 65536) % 256)))) [(1, vI 8), (0, .ref a)] [] 48
          refine G_goto hC 11 (by decide) d_Se_writeDotted_48 ?_
          refine G_iload_n hC 0 rfl rfl d_Se_writeDotted_11 ?_
          refine G_if_lt hC 51 (by decide) (by decide) d_Se_writeDotted_12 (fun c_41 => ?_) (fun c_41 => ?_)
          · exact (show False from by omega).elim
          · refine G_aload_n hC 1 rfl rfl d_Se_writeDotted_15 ?_
            have h_42 := fr_39.at h_34 (by simp only [List.mem_cons, List.not_mem_nil, or_false, not_or, not_false_eq_true]; try omega)
            refine G_get hC fl_Se_26 h_42 rfl d_Se_writeDotted_16 ?_
            refine G_aload_n hC 1 rfl rfl d_Se_writeDotted_19 ?_
            refine G_get hC fl_Se_29 h_42 rfl d_Se_writeDotted_20 ?_
            refine G_X2I ?_
            have g_43 := zI_rng ad
            refine G_iload_n hC 0 rfl rfl d_Se_writeDotted_23 ?_
            refine G_iushr hC (zI_ushr8 _) d_Se_writeDotted_24 ?_
            refine G_sipush (j := 255) hC (by decide +kernel) d_Se_writeDotted_25 ?_
            refine G_iand255 hC (by omega) d_Se_writeDotted_28 ?_
            refine G_xV (rest := []) hC hR (c_By_addNumber h_38 (by omega)) cv_Se_64 h_38.obj (by decide) (by omega) (by omega) rfl rfl (Nat.le_of_ble_eq_true rfl) d_Se_writeDotted_29 (fun r_46 M_44 p_45 => ?_)
            obtain ⟨rfl, h_47, fr_48⟩ := p_45
            show G E M_44 (0 + 0 + (psi 15 (addNB 15 (be.1, ([] : List Int)) ((ad.toInt % 4294967296 / 16777216) % 256)) - psi 15 (be.1, ([] : List Int))) + (psi 15 (addB 15 (addNB 15 (be.1, ([] : List Int)) ((ad.toInt % 4294967296 / 16777216) % 256)) 46) - psi 15 (addNB 15 (be.1, ([] : List Int)) ((ad.toInt % 4294967296 / 16777216) % 256))) + (psi 15 (addNB 15 (addB 15 (addNB 15 (be.1, ([] : List Int)) ((ad.toInt % 4294967296 / 16777216) % 256)) 46) ((ad.toInt % 4294967296 / 65536) % 256)) - psi 15 (addB 15 (addNB 15 (be.1, ([] : List Int)) ((ad.toInt % 4294967296 / 16777216) % 256)) 46)) + (psi 15 (addB 15 (addNB 15 (addB 15 (addNB 15 (be.1, ([] : List Int)) ((ad.toInt % 4294967296 / 16777216) % 256)) 46) ((ad.toInt % 4294967296 / 65536) % 256)) 46) - psi 15 (addNB 15 (addB 15 (addNB 15 (be.1, ([] : List Int)) ((ad.toInt % 4294967296 / 16777216) % 256)) 46) ((ad.toInt % 4294967296 / 65536) % 256))) + (psi 15 (addNB 15 (addB 15 (addNB 15 (addB 15 (addNB 15 (be.1, ([] : List Int)) ((ad.toInt % 4294967296 / 16777216) % 256)) 46) ((ad.toInt % 4294967296 / 65536) % 256)) 46) ((ad.toInt % 4294967296 / 256) % 256)) - psi 15 (addB 15 (addNB 15 (addB 15 (addNB 15 (be.1, ([] : List Int)) ((ad.toInt % 4294967296 / 16777216) % 256)) 46) ((ad.toInt % 4294967296 / 65536) % 256)) 46))) (0 + 0 + (psi 15 (addNB 15 (be.1, ([] : List Int)) ((ad.toInt % 4294967296 / 16777216) % 256)) - psi 15 (be.1, ([] : List Int))) + (psi 15 (addB 15 (addNB 15 (be.1, ([] : List Int)) ((ad.toInt % 4294967296 / 16777216) % 256)) 46) - psi 15 (addNB 15 (be.1, ([] : List Int)) ((ad.toInt % 4294967296 / 16777216) % 256))) + (psi 15 (addNB 15 (addB 15 (addNB 15 (be.1, ([] : List Int)) ((ad.toInt % 4294967296 / 16777216) % 256)) 46) ((ad.toInt % 4294967296 / 65536) % 256)) - psi 15 (addB 15 (addNB 15 (be.1, ([] : List Int)) ((ad.toInt % 4294967296 / 16777216) % 256)) 46)) + (psi 15 (addB 15 (addNB 15 (addB 15 (addNB 15 (be.1, ([] : List Int)) ((ad.toInt % 4294967296 / 16777216) % 256)) 46) ((ad.toInt % 4294967296 / 65536) % 256)) 46) - psi 15 (addNB 15 (addB 15 (addNB 15 (be.1, ([] : List Int)) ((ad.toInt % 4294967296 / 16777216) % 256)) 46) ((ad.toInt % 4294967296 / 65536) % 256))) + (psi 15 (addNB 15 (addB 15 (addNB 15 (addB 15 (addNB 15 (be.1, ([] : List Int)) ((ad.toInt % 4294967296 / 16777216) % 256)) 46) ((ad.toInt % 4294967296 / 65536) % 256)) 46) ((ad.toInt % 4294967296 / 256) % 256)) - psi 15 (addB 15 (addNB 15 (addB 15 (addNB 15 (be.1, ([] : List Int)) ((ad.toInt % 4294967296 / 16777216) % 256)) 46) ((ad.toInt % 4294967296 / 65536) % 256)) 46))) [(1, vI 8), (0, .ref a)] [] 32
            have g_49 := psi_addNB 15 (addB 15 (addNB 15 (addB 15 (addNB 15 (be.1, ([] : List Int)) ((ad.toInt % 4294967296 / 16777216) % 256)) 46) ((ad.toInt % 4294967296 / 65536) % 256)) 46) ((ad.toInt % 4294967296 / 256) % 256) ⟨h_38.len.1, h_38.len.2.1⟩
            refine G_iload_n hC 0 rfl rfl d_Se_writeDotted_32 ?_
            refine G_if_le hC 45 (by decide) (by decide) d_Se_writeDotted_33 (fun c_50 => ?_) (fun c_50 => ?_)
            · exact (show False from by omega).elim
            · refine G_aload_n hC 1 rfl rfl d_Se_writeDotted_36 ?_
              have h_51 := fr_48.at h_42 (by simp only [List.mem_cons, List.not_mem_nil, or_false, not_or, not_false_eq_true]; try omega)
              refine G_get hC fl_Se_26 h_51 rfl d_Se_writeDotted_37 ?_
              refine G_bipush (j := 46) hC (by decide +kernel) d_Se_writeDotted_40 ?_
              refine G_xV (rest := []) hC hR (c_By_add h_47 (by omega)) cv_Se_67 h_47.obj (by decide) (by omega) (by omega) rfl rfl (Nat.le_of_ble_eq_true rfl) d_Se_writeDotted_42 (fun r_54 M_52 p_53 => ?_)
              obtain ⟨rfl, h_55, fr_56⟩ := p_53
              show G E M_52 (0 + 0 + (psi 15 (addNB 15 (be.1, ([] : List Int)) ((ad.toInt % 4294967296 / 16777216) % 256)) - psi 15 (be.1, ([] : List Int))) + (psi 15 (addB 15 (addNB 15 (be.1, ([] : List Int)) ((ad.toInt % 4294967296 / 16777216) % 256)) 46) - psi 15 (addNB 15 (be.1, ([] : List Int)) ((ad.toInt % 4294967296 / 16777216) % 256))) + (psi 15 (addNB 15 (addB 15 (addNB 15 (be.1, ([] : List Int)) ((ad.toInt % 4294967296 / 16777216) % 256)) 46) ((ad.toInt % 4294967296 / 65536) % 256)) - psi 15 (addB 15 (addNB 15 (be.1, ([] : List Int)) ((ad.toInt % 4294967296 / 16777216) % 256)) 46)) + (psi 15 (addB 15 (addNB 15 (addB 15 (addNB 15 (be.1, ([] : List Int)) ((ad.toInt % 4294967296 / 16777216) % 256)) 46) ((ad.toInt % 4294967296 / 65536) % 256)) 46) - psi 15 (addNB 15 (addB 15 (addNB 15 (be.1, ([] : List Int)) ((ad.toInt % 4294967296 / 16777216) % 256)) 46) ((ad.toInt % 4294967296 / 65536) % 256))) + (psi 15 (addNB 15 (addB 15 (addNB 15 (addB 15 (addNB 15 (be.1, ([] : List Int)) ((ad.toInt % 4294967296 / 16777216) % 256)) 46) ((ad.toInt % 4294967296 / 65536) % 256)) 46) ((ad.toInt % 4294967296 / 256) % 256)) - psi 15 (addB 15 (addNB 15 (addB 15 (addNB 15 (be.1, ([] : List Int)) ((ad.toInt % 4294967296 / 16777216) % 256)) 46) ((ad.toInt % 4294967296 / 65536) % 256)) 46)) + (psi 15 (addB 15 (addNB 15 (addB 15 (addNB 15 (addB 15 (addNB 15 (be.1, ([] : List Int)) ((ad.toInt % 4294967296 / 16777216) % 256)) 46) ((ad.toInt % 4294967296 / 65536) % 256)) 46) ((ad.toInt % 4294967296 / 256) % 256)) 46) - psi 15 (addNB 15 (addB 15 (addNB 15 (addB 15 (addNB 15 (be.1, ([] : List Int)) ((ad.toInt % 4294967296 / 16777216) % 256)) 46) ((ad.toInt % 4294967296 / 65536) % 256)) 46) ((ad.toInt % 4294967296 / 256) % 256)))) (0 + 0 + (psi 15 (addNB 15 (be.1, ([] : List Int)) ((ad.toInt % 4294967296 / 16777216) % 256)) - psi 15 (be.1, ([] : List Int))) + (psi 15 (addB 15 (addNB 15 (be.1, ([] : List Int)) ((ad.toInt % 4294967296 / 16777216) % 256)) 46) - psi 15 (addNB 15 (be.1, ([] : List Int)) ((ad.toInt % 4294967296 / 16777216) % 256))) + (psi 15 (addNB 15 (addB 15 (addNB 15 (be.1, ([] : List Int)) ((ad.toInt % 4294967296 / 16777216) % 256)) 46) ((ad.toInt % 4294967296 / 65536) % 256)) - psi 15 (addB 15 (addNB 15 (be.1, ([] : List Int)) ((ad.toInt % 4294967296 / 16777216) % 256)) 46)) + (psi 15 (addB 15 (addNB 15 (addB 15 (addNB 15 (be.1, ([] : List Int)) ((ad.toInt % 4294967296 / 16777216) % 256)) 46) ((ad.toInt % 4294967296 / 65536) % 256)) 46) - psi 15 (addNB 15 (addB 15 (addNB 15 (be.1, ([] : List Int)) ((ad.toInt % 4294967296 / 16777216) % 256)) 46) ((ad.toInt % 4294967296 / 65536) % 256))) + (psi 15 (addNB 15 (addB 15 (addNB 15 (addB 15 (addNB 15 (be.1, ([] : List Int)) ((ad.toInt % 4294967296 / 16777216) % 256)) 46) ((ad.toInt % 4294967296 / 65536) % 256)) 46) ((ad.toInt % 4294967296 / 256) % 256)) - psi 15 (addB 15 (addNB 15 (addB 15 (addNB 15 (be.1, ([] : List Int)) ((ad.toInt % 4294967296 / 16777216) % 256)) 46) ((ad.toInt % 4294967296 / 65536) % 256)) 46)) + (psi 15 (addB 15 (addNB 15 (addB 15 (addNB 15 (addB 15 (addNB 15 (be.1, ([] : List Int)) ((ad.toInt % 4294967296 / 16777216) % 256)) 46) ((ad.toInt % 4294967296 / 65536) % 256)) 46) ((ad.toInt % 4294967296 / 256) % 256)) 46) - psi 15 (addNB 15 (addB 15 (addNB 15 (addB 15 (addNB 15 (be.1, ([] : List Int)) ((ad.toInt % 4294967296 / 16777216) % 256)) 46) ((ad.toInt % 4294967296 / 65536) % 256)) 46) ((ad.toInt % 4294967296 / 256) % 256)))) [(1, vI 8), (0, .ref a)] [] 45
              have g_57 := psi_addB (lim := 15) (b := (addNB 15 (addB 15 (addNB 15 (addB 15 (addNB 15 (be.1, ([] : List Int)) ((ad.toInt % 4294967296 / 16777216) % 256)) 46) ((ad.toInt % 4294967296 / 65536) % 256)) 46) ((ad.toInt % 4294967296 / 256) % 256))) 46 ⟨h_47.len.1, h_47.len.2.1⟩
              refine G_iinc (lv' := [(1, vI (8 + (-8))), (0, .ref a)]) hC 0 rfl (by rw [hN]; decide) rfl d_Se_writeDotted_45 ?_
              show G E M_52 (0 + 0 + (psi 15 (addNB 15 (be.1, ([] : List Int)) ((ad.toInt % 4294967296 / 16777216) % 256)) - psi 15 (be.1, ([] : List Int))) + (psi 15 (addB 15 (addNB 15 (be.1, ([] : List Int)) ((ad.toInt % 4294967296 / 16777216) % 256)) 46) - psi 15 (addNB 15 (be.1, ([] : List Int)) ((ad.toInt % 4294967296 / 16777216) % 256))) + (psi 15 (addNB 15 (addB 15 (addNB 15 (be.1, ([] : List Int)) ((ad.toInt % 4294967296 / 16777216) % 256)) 46) ((ad.toInt % 4294967296 / 65536) % 256)) - psi 15 (addB 15 (addNB 15 (be.1, ([] : List Int)) ((ad.toInt % 4294967296 / 16777216) % 256)) 46)) + (psi 15 (addB 15 (addNB 15 (addB 15 (addNB 15 (be.1, ([] : List Int)) ((ad.toInt % 4294967296 / 16777216) % 256)) 46) ((ad.toInt % 4294967296 / 65536) % 256)) 46) - psi 15 (addNB 15 (addB 15 (addNB 15 (be.1, ([] : List Int)) ((ad.toInt % 4294967296 / 16777216) % 256)) 46) ((ad.toInt % 4294967296 / 65536) % 256))) + (psi 15 (addNB 15 (addB 15 (addNB 15 (addB 15 (addNB 15 (be.1, ([] : List Int)) ((ad.toInt % 4294967296 / 16777216) % 256)) 46) ((ad.toInt % 4294967296 / 65536) % 256)) 46) ((ad.toInt % 4294967296 / 256) % 256)) - psi 15 (addB 15 (addNB 15 (addB 15 (addNB 15 (be.1, ([] : List Int)) ((ad.toInt % 4294967296 / 16777216) % 256)) 46) ((ad.toInt % 4294967296 / 65536) % 256)) 46)) + (psi 15 (addB 15 (addNB 15 (addB 15 (addNB 15 (addB 15 (addNB 15 (be.1, ([] : List Int)) ((ad.toInt % 4294967296 / 16777216) % 256)) 46) ((ad.toInt % 4294967296 / 65536) % 256)) 46) ((ad.toInt % 4294967296 / 256) % 256)) 46) - psi 15 (addNB 15 (addB 15 (addNB 15 (addB 15 (addNB 15 (be.1, ([] : List Int)) ((ad.toInt % 4294967296 / 16777216) % 256)) 46) ((ad.toInt % 4294967296 / 65536) % 256)) 46) ((ad.toInt % 4294967296 / 256) % 256)))) (0 + 0 + (psi 15 (addNB 15 (be.1, ([] : List Int)) ((ad.toInt % 4294967296 / 16777216) % 256)) - psi 15 (be.1, ([] : List Int))) + (psi 15 (addB 15 (addNB 15 (be.1, ([] : List Int)) ((ad.toInt % 4294967296 / 16777216) % 256)) 46) - psi 15 (addNB 15 (be.1, ([] : List Int)) ((ad.toInt % 4294967296 / 16777216) % 256))) + (psi 15 (addNB 15 (addB 15 (addNB 15 (be.1, ([] : List Int)) ((ad.toInt % 4294967296 / 16777216) % 256)) 46) ((ad.toInt % 4294967296 / 65536) % 256)) - psi 15 (addB 15 (addNB 15 (be.1, ([] : List Int)) ((ad.toInt % 4294967296 / 16777216) % 256)) 46)) + (psi 15 (addB 15 (addNB 15 (addB 15 (addNB 15 (be.1, ([] : List Int)) ((ad.toInt % 4294967296 / 16777216) % 256)) 46) ((ad.toInt % 4294967296 / 65536) % 256)) 46) - psi 15 (addNB 15 (addB 15 (addNB 15 (be.1, ([] : List Int)) ((ad.toInt % 4294967296 / 16777216) % 256)) 46) ((ad.toInt % 4294967296 / 65536) % 256))) + (psi 15 (addNB 15 (addB 15 (addNB 15 (addB 15 (addNB 15 (be.1, ([] : List Int)) ((ad.toInt % 4294967296 / 16777216) % 256)) 46) ((ad.toInt % 4294967296 / 65536) % 256)) 46) ((ad.toInt % 4294967296 / 256) % 256)) - psi 15 (addB 15 (addNB 15 (addB 15 (addNB 15 (be.1, ([] : List Int)) ((ad.toInt % 4294967296 / 16777216) % 256)) 46) ((ad.toInt % 4294967296 / 65536) % 256)) 46)) + (psi 15 (addB 15 (addNB 15 (addB 15 (addNB 15 (addB 15 (addNB 15 (be.1, ([] : List Int)) ((ad.toInt % 4294967296 / 16777216) % 256)) 46) ((ad.toInt % 4294967296 / 65536) % 256)) 46) ((ad.toInt % 4294967296 / 256) % 256)) 46) - psi 15 (addNB 15 (addB 15 (addNB 15 (addB 15 (addNB 15 (be.1, ([] : List Int)) ((ad.toInt % 4294967296 / 16777216) % 256)) 46) ((ad.toInt % 4294967296 / 65536) % 256)) 46) ((ad.toInt % 4294967296 / 256) % 256)))) [(1, vI 0), (0, .ref a)] [] 48
              refine G_goto hC 11 (by decide) d_Se_writeDotted_48 ?_
              refine G_iload_n hC 0 rfl rfl d_Se_writeDotted_11 ?_
              refine G_if_lt hC 51 (by decide) (by decide) d_Se_writeDotted_12 (fun c_58 => ?_) (fun c_58 => ?_)
              · exact (show False from by omega).elim
              · refine G_aload_n hC 1 rfl rfl d_Se_writeDotted_15 ?_
                have h_59 := fr_56.at h_51 (by simp only [List.mem_cons, List.not_mem_nil, or_false, not_or, not_false_eq_true]; try omega)
                refine G_get hC fl_Se_26 h_59 rfl d_Se_writeDotted_16 ?_
                refine G_aload_n hC 1 rfl rfl d_Se_writeDotted_19 ?_
                refine G_get hC fl_Se_29 h_59 rfl d_Se_writeDotted_20 ?_
                refine G_X2I ?_
                have g_60 := zI_rng ad
                refine G_iload_n hC 0 rfl rfl d_Se_writeDotted_23 ?_
                refine G_iushr hC (zI_ushr0 _) d_Se_writeDotted_24 ?_
                refine G_sipush (j := 255) hC (by decide +kernel) d_Se_writeDotted_25 ?_
                refine G_iand255 hC (by omega) d_Se_writeDotted_28 ?_
                refine G_xV (rest := []) hC hR (c_By_addNumber h_55 (by omega)) cv_Se_64 h_55.obj (by decide) (by omega) (by omega) rfl rfl (Nat.le_of_ble_eq_true rfl) d_Se_writeDotted_29 (fun r_63 M_61 p_62 => ?_)
                obtain ⟨rfl, h_64, fr_65⟩ := p_62
                show G E M_61 (0 + 0 + (psi 15 (addNB 15 (be.1, ([] : List Int)) ((ad.toInt % 4294967296 / 16777216) % 256)) - psi 15 (be.1, ([] : List Int))) + (psi 15 (addB 15 (addNB 15 (be.1, ([] : List Int)) ((ad.toInt % 4294967296 / 16777216) % 256)) 46) - psi 15 (addNB 15 (be.1, ([] : List Int)) ((ad.toInt % 4294967296 / 16777216) % 256))) + (psi 15 (addNB 15 (addB 15 (addNB 15 (be.1, ([] : List Int)) ((ad.toInt % 4294967296 / 16777216) % 256)) 46) ((ad.toInt % 4294967296 / 65536) % 256)) - psi 15 (addB 15 (addNB 15 (be.1, ([] : List Int)) ((ad.toInt % 4294967296 / 16777216) % 256)) 46)) + (psi 15 (addB 15 (addNB 15 (addB 15 (addNB 15 (be.1, ([] : List Int)) ((ad.toInt % 4294967296 / 16777216) % 256)) 46) ((ad.toInt % 4294967296 / 65536) % 256)) 46) - psi 15 (addNB 15 (addB 15 (addNB 15 (be.1, ([] : List Int)) ((ad.toInt % 4294967296 / 16777216) % 256)) 46) ((ad.toInt % 4294967296 / 65536) % 256))) + (psi 15 (addNB 15 (addB 15 (addNB 15 (addB 15 (addNB 15 (be.1, ([] : List Int)) ((ad.toInt % 4294967296 / 16777216) % 256)) 46) ((ad.toInt % 4294967296 / 65536) % 256)) 46) ((ad.toInt % 4294967296 / 256) % 256)) - psi 15 (addB 15 (addNB 15 (addB 15 (addNB 15 (be.1, ([] : List Int)) ((ad.toInt % 4294967296 / 16777216) % 256)) 46) ((ad.toInt % 4294967296 / 65536) % 256)) 46)) + (psi 15 (addB 15 (addNB 15 (addB 15 (addNB 15 (addB 15 (addNB 15 (be.1, ([] : List Int)) ((ad.toInt % 4294967296 / 16777216) % 256)) 46) ((ad.toInt % 4294967296 / 65536) % 256)) 46) ((ad.toInt % 4294967296 / 256) % 256)) 46) - psi 15 (addNB 15 (addB 15 (addNB 15 (addB 15 (addNB 15 (be.1, ([] : List Int)) ((ad.toInt % 4294967296 / 16777216) % 256)) 46) ((ad.toInt % 4294967296 / 65536) % 256)) 46) ((ad.toInt % 4294967296 / 256) % 256))) + (psi 15 (addNB 15 (addB 15 (addNB 15 (addB 15 (addNB 15 (addB 15 (addNB 15 (be.1, ([] : List Int)) ((ad.toInt % 4294967296 / 16777216) % 256)) 46) ((ad.toInt % 4294967296 / 65536) % 256)) 46) ((ad.toInt % 4294967296 / 256) % 256)) 46) (ad.toInt % 256)) - psi 15 (addB 15 (addNB 15 (addB 15 (addNB 15 (addB 15 (addNB 15 (be.1, ([] : List Int)) ((ad.toInt % 4294967296 / 16777216) % 256)) 46) ((ad.toInt % 4294967296 / 65536) % 256)) 46) ((ad.toInt % 4294967296 / 256) % 256)) 46))) (0 + 0 + (psi 15 (addNB 15 (be.1, ([] : List Int)) ((ad.toInt % 4294967296 / 16777216) % 256)) - psi 15 (be.1, ([] : List Int))) + (psi 15 (addB 15 (addNB 15 (be.1, ([] : List Int)) ((ad.toInt % 4294967296 / 16777216) % 256)) 46) - psi 15 (addNB 15 (be.1, ([] : List Int)) ((ad.toInt % 4294967296 / 16777216) % 256))) + (psi 15 (addNB 15 (addB 15 (addNB 15 (be.1, ([] : List Int)) ((ad.toInt % 4294967296 / 16777216) % 256)) 46) ((ad.toInt % 4294967296 / 65536) % 256)) - psi 15 (addB 15 (addNB 15 (be.1, ([] : List Int)) ((ad.toInt % 4294967296 / 16777216) % 256)) 46)) + (psi 15 (addB 15 (addNB 15 (addB 15 (addNB 15 (be.1, ([] : List Int)) ((ad.toInt % 4294967296 / 16777216) % 256)) 46) ((ad.toInt % 4294967296 / 65536) % 256)) 46) - psi 15 (addNB 15 (addB 15 (addNB 15 (be.1, ([] : List Int)) ((ad.toInt % 4294967296 / 16777216) % 256)) 46) ((ad.toInt % 4294967296 / 65536) % 256))) + (psi 15 (addNB 15 (addB 15 (addNB 15 (addB 15 (addNB 15 (be.1, ([] : List Int)) ((ad.toInt % 4294967296 / 16777216) % 256)) 46) ((ad.toInt % 4294967296 / 65536) % 256)) 46) ((ad.toInt % 4294967296 / 256) % 256)) - psi 15 (addB 15 (addNB 15 (addB 15 (addNB 15 (be.1, ([] : List Int)) ((ad.toInt % 4294967296 / 16777216) % 256)) 46) ((ad.toInt % 4294967296 / 65536) % 256)) 46)) + (psi 15 (addB 15 (addNB 15 (addB 15 (addNB 15 (addB 15 (addNB 15 (be.1, ([] : List Int)) ((ad.toInt % 4294967296 / 16777216) % 256)) 46) ((ad.toInt % 4294967296 / 65536) % 256)) 46) ((ad.toInt % 4294967296 / 256) % 256)) 46) - psi 15 (addNB 15 (addB 15 (addNB 15 (addB 15 (addNB 15 (be.1, ([] : List Int)) ((ad.toInt % 4294967296 / 16777216) % 256)) 46) ((ad.toInt % 4294967296 / 65536) % 256)) 46) ((ad.toInt % 4294967296 / 256) % 256))) + (psi 15 (addNB 15 (addB 15 (addNB 15 (addB 15 (addNB 15 (addB 15 (addNB 15 (be.1, ([] : List Int)) ((ad.toInt % 4294967296 / 16777216) % 256)) 46) ((ad.toInt % 4294967296 / 65536) % 256)) 46) ((ad.toInt % 4294967296 / 256) % 256)) 46) (ad.toInt % 256)) - psi 15 (addB 15 (addNB 15 (addB 15 (addNB 15 (addB 15 (addNB 15 (be.1, ([] : List Int)) ((ad.toInt % 4294967296 / 16777216) % 256)) 46) ((ad.toInt % 4294967296 / 65536) % 256)) 46) ((ad.toInt % 4294967296 / 256) % 256)) 46))) [(1, vI 0), (0, .ref a)] [] 32
                have g_66 := psi_addNB 15 (addB 15 (addNB 15 (addB 15 (addNB 15 (addB 15 (addNB 15 (be.1, ([] : List Int)) ((ad.toInt % 4294967296 / 16777216) % 256)) 46) ((ad.toInt % 4294967296 / 65536) % 256)) 46) ((ad.toInt % 4294967296 / 256) % 256)) 46) (ad.toInt % 256) ⟨h_55.len.1, h_55.len.2.1⟩
                refine G_iload_n hC 0 rfl rfl d_Se_writeDotted_32 ?_
                refine G_if_le hC 45 (by decide) (by decide) d_Se_writeDotted_33 (fun c_67 => ?_) (fun c_67 => ?_)
                · refine G_iinc (lv' := [(1, vI (0 + (-8))), (0, .ref a)]) hC 0 rfl (by rw [hN]; decide) rfl d_Se_writeDotted_45 ?_
                  show G E M_61 (0 + 0 + (psi 15 (addNB 15 (be.1, ([] : List Int)) ((ad.toInt % 4294967296 / 16777216) % 256)) - psi 15 (be.1, ([] : List Int))) + (psi 15 (addB 15 (addNB 15 (be.1, ([] : List Int)) ((ad.toInt % 4294967296 / 16777216) % 256)) 46) - psi 15 (addNB 15 (be.1, ([] : List Int)) ((ad.toInt % 4294967296 / 16777216) % 256))) + (psi 15 (addNB 15 (addB 15 (addNB 15 (be.1, ([] : List Int)) ((ad.toInt % 4294967296 / 16777216) % 256)) 46) ((ad.toInt % 4294967296 / 65536) % 256)) - psi 15 (addB 15 (addNB 15 (be.1, ([] : List Int)) ((ad.toInt % 4294967296 / 16777216) % 256)) 46)) + (psi 15 (addB 15 (addNB 15 (addB 15 (addNB 15 (be.1, ([] : List Int)) ((ad.toInt % 4294967296 / 16777216) % 256)) 46) ((ad.toInt % 4294967296 / 65536) % 256)) 46) - psi 15 (addNB 15 (addB 15 (addNB 15 (be.1, ([] : List Int)) ((ad.toInt % 4294967296 / 16777216) % 256)) 46) ((ad.toInt % 4294967296 / 65536) % 256))) + (psi 15 (addNB 15 (addB 15 (addNB 15 (addB 15 (addNB 15 (be.1, ([] : List Int)) ((ad.toInt % 4294967296 / 16777216) % 256)) 46) ((ad.toInt % 4294967296 / 65536) % 256)) 46) ((ad.toInt % 4294967296 / 256) % 256)) - psi 15 (addB 15 (addNB 15 (addB 15 (addNB 15 (be.1, ([] : List Int)) ((ad.toInt % 4294967296 / 16777216) % 256)) 46) ((ad.toInt % 4294967296 / 65536) % 256)) 46)) + (psi 15 (addB 15 (addNB 15 (addB 15 (addNB 15 (addB 15 (addNB 15 (be.1, ([] : List Int)) ((ad.toInt % 4294967296 / 16777216) % 256)) 46) ((ad.toInt % 4294967296 / 65536) % 256)) 46) ((ad.toInt % 4294967296 / 256) % 256)) 46) - psi 15 (addNB 15 (addB 15 (addNB 15 (addB 15 (addNB 15 (be.1, ([] : List Int)) ((ad.toInt % 4294967296 / 16777216) % 256)) 46) ((ad.toInt % 4294967296 / 65536) % 256)) 46) ((ad.toInt % 4294967296 / 256) % 256))) + (psi 15 (addNB 15 (addB 15 (addNB 15 (addB 15 (addNB 15 (addB 15 (addNB 15 (be.1, ([] : List Int)) ((ad.toInt % 4294967296 / 16777216) % 256)) 46) ((ad.toInt % 4294967296 / 65536) % 256)) 46) ((ad.toInt % 4294967296 / 256) % 256)) 46) (ad.toInt % 256)) - psi 15 (addB 15 (addNB 15 (addB 15 (addNB 15 (addB 15 (addNB 15 (be.1, ([] : List Int)) ((ad.toInt % 4294967296 / 16777216) % 256)) 46) ((ad.toInt % 4294967296 / 65536) % 256)) 46) ((ad.toInt % 4294967296 / 256) % 256)) 46))) (0 + 0 + (psi 15 (addNB 15 (be.1, ([] : List Int)) ((ad.toInt % 4294967296 / 16777216) % 256)) - psi 15 (be.1, ([] : List Int))) + (psi 15 (addB 15 (addNB 15 (be.1, ([] : List Int)) ((ad.toInt % 4294967296 / 16777216) % 256)) 46) - psi 15 (addNB 15 (be.1, ([] : List Int)) ((ad.toInt % 4294967296 / 16777216) % 256))) + (psi 15 (addNB 15 (addB 15 (addNB 15 (be.1, ([] : List Int)) ((ad.toInt % 4294967296 / 16777216) % 256)) 46) ((ad.toInt % 4294967296 / 65536) % 256)) - psi 15 (addB 15 (addNB 15 (be.1, ([] : List Int)) ((ad.toInt % 4294967296 / 16777216) % 256)) 46)) + (psi 15 (addB 15 (addNB 15 (addB 15 (addNB 15 (be.1, ([] : List Int)) ((ad.toInt % 4294967296 / 16777216) % 256)) 46) ((ad.toInt % 4294967296 / 65536) % 256)) 46) - psi 15 (addNB 15 (addB 15 (addNB 15 (be.1, ([] : List Int)) ((ad.toInt % 4294967296 / 16777216) % 256)) 46) ((ad.toInt % 4294967296 / 65536) % 256))) + (psi 15 (addNB 15 (addB 15 (addNB 15 (addB 15 (addNB 15 (be.1, ([] : List Int)) ((ad.toInt % 4294967296 / 16777216) % 256)) 46) ((ad.toInt % 4294967296 / 65536) % 256)) 46) ((ad.toInt % 4294967296 / 256) % 256)) - psi 15 (addB 15 (addNB 15 (addB 15 (addNB 15 (be.1, ([] : List Int)) ((ad.toInt % 4294967296 / 16777216) % 256)) 46) ((ad.toInt % 4294967296 / 65536) % 256)) 46)) + (psi 15 (addB 15 (addNB 15 (addB 15 (addNB 15 (addB 15 (addNB 15 (be.1, ([] : List Int)) ((ad.toInt % 4294967296 / 16777216) % 256)) 46) ((ad.toInt % 4294967296 / 65536) % 256)) 46) ((ad.toInt % 4294967296 / 256) % 256)) 46) - psi 15 (addNB 15 (addB 15 (addNB 15 (addB 15 (addNB 15 (be.1, ([] : List Int)) ((ad.toInt % 4294967296 / 16777216) % 256)) 46) ((ad.toInt % 4294967296 / 65536) % 256)) 46) ((ad.toInt % 4294967296 / 256) % 256))) + (psi 15 (addNB 15 (addB 15 (addNB 15 (addB 15 (addNB 15 (addB 15 (addNB 15 (be.1, ([] : List Int)) ((ad.toInt % 4294967296 / 16777216) % 256)) 46) ((ad.toInt % 4294967296 / 65536) % 256)) 46) ((ad.toInt % 4294967296 / 256) % 256)) 46) (ad.toInt % 256)) - psi 15 (addB 15 (addNB 15 (addB 15 (addNB 15 (addB 15 (addNB 15 (be.1, ([] : List Int)) ((ad.toInt % 4294967296 / 16777216) % 256)) 46) ((ad.toInt % 4294967296 / 65536) % 256)) 46) ((ad.toInt % 4294967296 / 256) % 256)) 46))) [(1, vI (-8)), (0, .ref a)] [] 48
                  refine G_goto hC 11 (by decide) d_Se_writeDotted_48 ?_
                  refine G_iload_n hC 0 rfl rfl d_Se_writeDotted_11 ?_
                  refine G_if_lt hC 51 (by decide) (by decide) d_Se_writeDotted_12 (fun c_68 => ?_) (fun c_68 => ?_)
                  · exact G_return hC hQ (by omega) (by omega) d_Se_writeDotted_51 ⟨rfl, by rw [← hE]; exact h_64, ((((((((fr_5.up (T := [15, 16]) (by simp)).tr' (T := [15, 16]) fr_14 (fun _ z => z) (by simp)).tr' (T := [15, 16]) fr_22 (fun _ z => z) (by simp)).tr' (T := [15, 16]) fr_31 (fun _ z => z) (by simp)).tr' (T := [15, 16]) fr_39 (fun _ z => z) (by simp)).tr' (T := [15, 16]) fr_48 (fun _ z => z) (by simp)).tr' (T := [15, 16]) fr_56 (fun _ z => z) (by simp)).tr' (T := [15, 16]) fr_65 (fun _ z => z) (by simp))⟩
                  · exact (show False from by omega).elim
                · exact (show False from by omega).elim

set_option maxHeartbeats 4000000 in
set_option maxRecDepth 100000 in
theorem c_Di_init {l : Launch} {D : Dg} {b0 : Nat} {M : Mp} {a : Nat} (h_obj_a : M a = some (6, .inr (cDi, [.null, vI 0]))) : Ok l D b0 2 y_Di_init b_Di_init 1 none M [.ref a] 1 40 (fun r M' => r = none ∧ IsDir D M' a ([]) ∧ Fr [6, 7] M M') := by
  refine Ok_of rfl (Nat.le_of_ble_eq_true rfl) (fun E hC hQ hl hD hB hN hR => ?_)
  subst hl hD hB
  show G E M 0 0 [(0, .ref a)] [] 0
  refine G_aload_n hC 0 rfl rfl d_Di_init_0 ?_
  refine G_objI hC hR lm_Di_3 (Nat.le_of_ble_eq_true rfl) (Nat.le_of_ble_eq_true rfl) d_Di_init_1 ?_
  refine G_aload_n hC 0 rfl rfl d_Di_init_4 ?_
  refine G_bipush (j := 40) hC (by decide +kernel) d_Di_init_5 ?_
  refine G_anewX (q0 := 2) 7 hC hR kl_Di_9 (by decide) rfl (by omega) (by omega) (by omega) d_Di_init_7 (fun q_1 M_2 h_3 fr_4 => ?_)
  have h_5 := fr_4.at h_obj_a (by decide)
  refine G_putFX (fs' := [.ref q_1, vI 0]) hC fl_Di_11 ft_Di ff_Di_0 rfl h_5 rfl rfl (Nat.le_of_ble_eq_true rfl) rfl d_Di_init_10 (fun M_6 h_7 fr_8 => ?_)
  refine G_aload_n hC 0 rfl rfl d_Di_init_13 ?_
  refine G_iconst (i := 0) hC d_Di_init_14 ?_
  refine G_putX (fs' := [.ref q_1, vI 0]) hC fl_Di_17 ft_Di fw_Di_1 h_7 rfl rfl (Nat.le_of_ble_eq_true rfl) rfl d_Di_init_15 (fun M_9 h_10 fr_11 => ?_)
  have h_12 := fr_8.at h_3 (by decide)
  have h_13 := fr_11.at h_12 (by decide)
  exact G_return hC hQ (by omega) (by omega) d_Di_init_18 ⟨rfl, ⟨q_1, _, h_10, h_13, by simp, fun j x hj => by simp at hj⟩, (((fr_4.up (T := [6, 7]) (by simp)).tr' (T := [6, 7]) fr_8 (fun _ z => z) (by simp)).tr' (T := [6, 7]) fr_11 (fun _ z => z) (by simp))⟩

set_option maxHeartbeats 4000000 in
set_option maxRecDepth 100000 in
theorem c_Ma_init {l : Launch} {D : Dg} {b0 : Nat} {M : Mp} {a : Nat} {se : Nat} (h_obj_a : M a = some (17, .inr (cMa, [.null, .null]))) : Ok l D b0 2 y_Ma_init b_Ma_init 2 none M [.ref a, .ref se] 1 93 (fun r M' => r = none ∧ IsMa D M' a se ∧ Fr [17, 18] M M') := by
  refine Ok_of rfl (Nat.le_of_ble_eq_true rfl) (fun E hC hQ hl hD hB hN hR => ?_)
  subst hl hD hB
  show G E M 0 0 [(0, .ref a), (1, .ref se)] [] 0
  refine G_aload_n hC 0 rfl rfl d_Ma_init_0 ?_
  refine G_objI hC hR lm_Ma_3 (Nat.le_of_ble_eq_true rfl) (Nat.le_of_ble_eq_true rfl) d_Ma_init_1 ?_
  refine G_aload_n hC 0 rfl rfl d_Ma_init_4 ?_
  refine G_aload_n hC 1 rfl rfl d_Ma_init_5 ?_
  refine G_putFX (fs' := [.ref se, .null]) hC fl_Ma_9 ft_Ma ff_Ma_0 rfl h_obj_a rfl rfl (Nat.le_of_ble_eq_true rfl) rfl d_Ma_init_6 (fun M_1 h_2 fr_3 => ?_)
  refine G_aload_n hC 0 rfl rfl d_Ma_init_9 ?_
  refine G_bipush (j := 93) hC (by decide +kernel) d_Ma_init_10 ?_
  refine G_newIX 18 hC hR w_acI (by omega) (by omega) (by omega) d_Ma_init_12 (fun q_4 M_5 h_6 fr_7 => ?_)
  have h_8 := fr_7.at h_2 (by decide)
  refine G_putFX (fs' := [.ref se, .ref q_4]) hC fl_Ma_15 ft_Ma ff_Ma_1 rfl h_8 rfl rfl (Nat.le_of_ble_eq_true rfl) rfl d_Ma_init_14 (fun M_9 h_10 fr_11 => ?_)
  have h_12 := fr_11.at h_6 (by decide)
  exact G_return hC hQ (by omega) (by omega) d_Ma_init_17 ⟨rfl, ⟨q_4, _, h_10, h_12⟩, (((fr_3.up (T := [17, 18]) (by simp)).tr' (T := [17, 18]) fr_7 (fun _ z => z) (by simp)).tr' (T := [17, 18]) fr_11 (fun _ z => z) (by simp))⟩

set_option maxHeartbeats 4000000 in
set_option maxRecDepth 100000 in
theorem c_Se_take {l : Launch} {D : Dg} {b0 : Nat} {M : Mp} {a : Nat} {ad : Int32} {o : Nat} {so : Option Snd} {lim : Int} {b : Bv} (h_Se_a : IsSe D M a so) (h_B_o : IsB D M o 2 lim b) (hlen : b.2.length ≤ 800) : Ok l D b0 6 y_Se_take b_Se_take 5 (some .boolean) M [.ref a, .int ad, .ref o] 600 600 (fun r M' => r = some (vI (b2i (sndS b.2 ad).isSome)) ∧ IsSe D M' a ((sndS b.2 ad).or so) ∧ Fr [8, 9, 10, 11, 12, 13, 14, 15, 16] M M') := by
  refine Ok_of rfl (Nat.le_of_ble_eq_true rfl) (fun E hC hQ hl hD hB hN hR => ?_)
  subst hl hD hB
  obtain ⟨m_1, l_2, d_3, e_4, bm_5, bl_6, bd_7, be_8, ad_9, h_10, h_11, h_12, h_13, h_14, h_15, h_16, h_17⟩ := id h_Se_a
  have hO9 := h_B_o.len
  have hm9 := h_11.len
  have hl9 := h_12.len
  have hd9 := h_13.len
  have he9 := h_14.len
  have hqm := psi_max (lim := 91) (b := bm_5) (by omega)
  have hql := psi_max (lim := 30) (b := bl_6) (by omega)
  have hqd := psi_max (lim := 60) (b := bd_7) (by omega)
  have hqe := psi_max (lim := 15) (b := be_8) (by omega)
  have hfr9 := findS_rng b.2 64 0 (b.2.length : Int)
  show G E M 0 0 [(0, .ref a), (1, .int ad), (2, .ref o)] [] 0
  refine G_aload_n hC 2 rfl rfl d_Se_take_0 ?_
  refine G_pV (rest := []) hC hR (c_By_size h_B_o) cv_Se_33 h_B_o.obj (by decide) (by omega) (by omega) rfl rfl (Nat.le_of_ble_eq_true rfl) d_Se_take_1 ?_
  have g_18 := h_B_o.len
  refine G_istore_n (lv' := [(3, vI (b.2.length : Int)), (0, .ref a), (1, .int ad), (2, .ref o)]) hC rfl (by rw [hN]; decide) rfl d_Se_take_4 ?_
  refine G_aload_n hC 3 rfl rfl d_Se_take_5 ?_
  refine G_bipush (j := 64) hC (by decide +kernel) d_Se_take_6 ?_
  refine G_iconst (i := 0) hC d_Se_take_8 ?_
  refine G_iload_n hC 0 rfl rfl d_Se_take_9 ?_
  refine G_pV (rest := []) hC hR (c_By_find h_B_o (by omega) (by omega) (by omega) rfl) cv_Se_37 h_B_o.obj (by decide) (by omega) (by omega) rfl rfl (Nat.le_of_ble_eq_true rfl) d_Se_take_10 ?_
  have g_19 := findS_rng b.2 64 0 (b.2.length : Int)
  refine G_istore (lv' := [(4, vI (findS b.2 64 0 (b.2.length : Int))), (3, vI (b.2.length : Int)), (0, .ref a), (1, .int ad), (2, .ref o)]) hC (by rw [hN]; decide) rfl d_Se_take_13 ?_
  refine G_aload_n hC 4 rfl rfl d_Se_take_15 ?_
  refine G_iconst (i := 0) hC d_Se_take_16 ?_
  refine G_iload hC 0 rfl d_Se_take_17 ?_
  refine G_pS (rest := []) hC hR (c_Si_isLocal h_B_o (by omega) (by omega) rfl) cs_Se_41 (by decide) (by omega) (by omega) rfl rfl (Nat.le_of_ble_eq_true rfl) d_Se_take_19 ?_
  refine G_if_eq hC 37 (by have := b2i_rng (locaS b.2 0 (findS b.2 64 0 (b.2.length : Int))); omega) (by decide) d_Se_take_22 (fun c_20 => ?_) (fun c_20 => ?_)
  · have c_20 := b2i_eq0.mp c_20
    refine G_iconst (i := 0) hC d_Se_take_37 ?_
    have hS : sndS b.2 ad = none := if_neg (fun z => by first | (have z1 := z.1; rw [z1] at c_20; cases c_20) | (have z2 := z.2; rw [z2] at c_20; cases c_20))
    exact G_zretX _ hC hQ (by omega) (by omega) d_Se_take_38 (b2i_f (by rw [hS]; rfl)) ⟨rfl, by rw [hS]; exact h_Se_a, Fr.rf⟩
  · have c_20 := b2i_ne0.mp c_20
    refine G_aload_n hC 4 rfl rfl d_Se_take_25 ?_
    refine G_iload hC 0 rfl d_Se_take_26 ?_
    refine G_iconst (i := 1) hC d_Se_take_28 ?_
    refine G_iadd hC d_Se_take_29 ?_
    refine G_iload_n hC 1 rfl rfl d_Se_take_30 ?_
    refine G_pS (rest := []) hC hR (c_Si_isName h_B_o (by omega) (by omega) rfl) cs_Se_47 (by decide) (by omega) (by omega) rfl rfl (Nat.le_of_ble_eq_true rfl) d_Se_take_31 ?_
    refine G_if_ne hC 39 (by have := b2i_rng (nameS b.2 ((findS b.2 64 0 (b.2.length : Int)) + 1) (b.2.length : Int)); omega) (by decide) d_Se_take_34 (fun c_21 => ?_) (fun c_21 => ?_)
    · have c_21 := b2i_ne0.mp c_21
      refine G_aload_n hC 2 rfl rfl d_Se_take_39 ?_
      refine G_iload_n hC 3 rfl rfl d_Se_take_40 ?_
      refine G_putX (fs' := [.ref m_1, .ref l_2, .ref d_3, .ref e_4, .int ad]) hC fl_Se_29 ft_Se fw_Se_4 h_10 rfl rfl (Nat.le_of_ble_eq_true rfl) rfl d_Se_take_41 (fun M_22 h_23 fr_24 => ?_)
      refine G_aload_n hC 2 rfl rfl d_Se_take_44 ?_
      refine G_get hC fl_Se_14 h_23 rfl d_Se_take_45 ?_
      refine G_aload_n hC 4 rfl rfl d_Se_take_48 ?_
      refine G_iconst (i := 0) hC d_Se_take_49 ?_
      refine G_iload_n hC 1 rfl rfl d_Se_take_50 ?_
      have hwm := psi_max (lim := 91) (b := addPB 91 (bm_5.1, []) b.2 0 (b.2.length : Int)) (psi_addPB (lim := 91) (b := (bm_5.1, [])) b.2 0 (b.2.length : Int) ⟨Nat.zero_le _, by omega⟩).2.2
      have h_25 := h_11.fr fr_24 (by decide) (by decide)
      have h_26 := h_B_o.fr fr_24 (by decide) (by decide)
      refine G_xS (rest := []) hC hR (c_Se_refill h_25 h_26 (by omega) (by omega) (by decide)) cs_Se_50 (by decide) (by omega) (by omega) rfl rfl (Nat.le_of_ble_eq_true rfl) d_Se_take_51 (fun r_29 M_27 p_28 => ?_)
      obtain ⟨rfl, h_30, fr_31⟩ := p_28
      show G E M_27 (0 + (psi 91 (addPB 91 (bm_5.1, []) b.2 0 (b.2.length : Int)) - psi 91 bm_5)) (0 + (psi 91 (addPB 91 (bm_5.1, []) b.2 0 (b.2.length : Int)) - psi 91 bm_5)) [(4, vI (findS b.2 64 0 (b.2.length : Int))), (3, vI (b.2.length : Int)), (0, .ref a), (1, .int ad), (2, .ref o)] [] 54
      have g_32 := psi_addPB (lim := 91) (b := (bm_5.1, [])) b.2 0 (b.2.length : Int) ⟨Nat.zero_le _, h_25.len.2.1⟩
      refine G_aload_n hC 2 rfl rfl d_Se_take_54 ?_
      have h_33 := fr_31.at h_23 (by simp only [List.mem_cons, List.not_mem_nil, or_false, not_or, not_false_eq_true]; try omega)
      refine G_get hC fl_Se_20 h_33 rfl d_Se_take_55 ?_
      refine G_aload_n hC 4 rfl rfl d_Se_take_58 ?_
      refine G_iconst (i := 0) hC d_Se_take_59 ?_
      refine G_iload hC 0 rfl d_Se_take_60 ?_
      have hwl := psi_max (lim := 30) (b := addPB 30 (bl_6.1, []) b.2 0 (findS b.2 64 0 (b.2.length : Int))) (psi_addPB (lim := 30) (b := (bl_6.1, [])) b.2 0 (findS b.2 64 0 (b.2.length : Int)) ⟨Nat.zero_le _, by omega⟩).2.2
      have h_34 := h_12.fr fr_24 (by decide) (by decide)
      have h_35 := h_34.fr fr_31 (by simp only [List.mem_cons, List.not_mem_nil, or_false, not_or, not_false_eq_true]; try omega) (by simp only [List.mem_cons, List.not_mem_nil, or_false, not_or, not_false_eq_true]; try omega)
      have h_36 := h_26.fr fr_31 (by simp only [List.mem_cons, List.not_mem_nil, or_false, not_or, not_false_eq_true]; try omega) (by simp only [List.mem_cons, List.not_mem_nil, or_false, not_or, not_false_eq_true]; try omega)
      refine G_xS (rest := []) hC hR (c_Se_refill h_35 h_36 (by omega) (by omega) (by decide)) cs_Se_50 (by decide) (by omega) (by omega) rfl rfl (Nat.le_of_ble_eq_true rfl) d_Se_take_62 (fun r_39 M_37 p_38 => ?_)
      obtain ⟨rfl, h_40, fr_41⟩ := p_38
      show G E M_37 (0 + (psi 91 (addPB 91 (bm_5.1, []) b.2 0 (b.2.length : Int)) - psi 91 bm_5) + (psi 30 (addPB 30 (bl_6.1, []) b.2 0 (findS b.2 64 0 (b.2.length : Int))) - psi 30 bl_6)) (0 + (psi 91 (addPB 91 (bm_5.1, []) b.2 0 (b.2.length : Int)) - psi 91 bm_5) + (psi 30 (addPB 30 (bl_6.1, []) b.2 0 (findS b.2 64 0 (b.2.length : Int))) - psi 30 bl_6)) [(4, vI (findS b.2 64 0 (b.2.length : Int))), (3, vI (b.2.length : Int)), (0, .ref a), (1, .int ad), (2, .ref o)] [] 65
      have g_42 := psi_addPB (lim := 30) (b := (bl_6.1, [])) b.2 0 (findS b.2 64 0 (b.2.length : Int)) ⟨Nat.zero_le _, h_35.len.2.1⟩
      refine G_aload_n hC 2 rfl rfl d_Se_take_65 ?_
      have h_43 := fr_41.at h_33 (by simp only [List.mem_cons, List.not_mem_nil, or_false, not_or, not_false_eq_true]; try omega)
      refine G_get hC fl_Se_23 h_43 rfl d_Se_take_66 ?_
      refine G_aload_n hC 4 rfl rfl d_Se_take_69 ?_
      refine G_iload hC 0 rfl d_Se_take_70 ?_
      refine G_iconst (i := 1) hC d_Se_take_72 ?_
      refine G_iadd hC d_Se_take_73 ?_
      refine G_iload_n hC 1 rfl rfl d_Se_take_74 ?_
      have hwd := psi_max (lim := 60) (b := addPB 60 (bd_7.1, []) b.2 ((findS b.2 64 0 (b.2.length : Int)) + 1) (b.2.length : Int)) (psi_addPB (lim := 60) (b := (bd_7.1, [])) b.2 ((findS b.2 64 0 (b.2.length : Int)) + 1) (b.2.length : Int) ⟨Nat.zero_le _, by omega⟩).2.2
      have h_44 := h_13.fr fr_24 (by decide) (by decide)
      have h_45 := h_44.fr fr_31 (by simp only [List.mem_cons, List.not_mem_nil, or_false, not_or, not_false_eq_true]; try omega) (by simp only [List.mem_cons, List.not_mem_nil, or_false, not_or, not_false_eq_true]; try omega)
      have h_46 := h_45.fr fr_41 (by simp only [List.mem_cons, List.not_mem_nil, or_false, not_or, not_false_eq_true]; try omega) (by simp only [List.mem_cons, List.not_mem_nil, or_false, not_or, not_false_eq_true]; try omega)
      have h_47 := h_36.fr fr_41 (by simp only [List.mem_cons, List.not_mem_nil, or_false, not_or, not_false_eq_true]; try omega) (by simp only [List.mem_cons, List.not_mem_nil, or_false, not_or, not_false_eq_true]; try omega)
      refine G_xS (rest := []) hC hR (c_Se_refill h_46 h_47 (by omega) (by omega) (by decide)) cs_Se_50 (by decide) (by omega) (by omega) rfl rfl (Nat.le_of_ble_eq_true rfl) d_Se_take_75 (fun r_50 M_48 p_49 => ?_)
      obtain ⟨rfl, h_51, fr_52⟩ := p_49
      show G E M_48 (0 + (psi 91 (addPB 91 (bm_5.1, []) b.2 0 (b.2.length : Int)) - psi 91 bm_5) + (psi 30 (addPB 30 (bl_6.1, []) b.2 0 (findS b.2 64 0 (b.2.length : Int))) - psi 30 bl_6) + (psi 60 (addPB 60 (bd_7.1, []) b.2 ((findS b.2 64 0 (b.2.length : Int)) + 1) (b.2.length : Int)) - psi 60 bd_7)) (0 + (psi 91 (addPB 91 (bm_5.1, []) b.2 0 (b.2.length : Int)) - psi 91 bm_5) + (psi 30 (addPB 30 (bl_6.1, []) b.2 0 (findS b.2 64 0 (b.2.length : Int))) - psi 30 bl_6) + (psi 60 (addPB 60 (bd_7.1, []) b.2 ((findS b.2 64 0 (b.2.length : Int)) + 1) (b.2.length : Int)) - psi 60 bd_7)) [(4, vI (findS b.2 64 0 (b.2.length : Int))), (3, vI (b.2.length : Int)), (0, .ref a), (1, .int ad), (2, .ref o)] [] 78
      have g_53 := psi_addPB (lim := 60) (b := (bd_7.1, [])) b.2 ((findS b.2 64 0 (b.2.length : Int)) + 1) (b.2.length : Int) ⟨Nat.zero_le _, h_46.len.2.1⟩
      refine G_aload_n hC 2 rfl rfl d_Se_take_78 ?_
      have h_54 := fr_52.at h_43 (by simp only [List.mem_cons, List.not_mem_nil, or_false, not_or, not_false_eq_true]; try omega)
      have h_55 := h_14.fr fr_24 (by decide) (by decide)
      have h_56 := h_55.fr fr_31 (by simp only [List.mem_cons, List.not_mem_nil, or_false, not_or, not_false_eq_true]; try omega) (by simp only [List.mem_cons, List.not_mem_nil, or_false, not_or, not_false_eq_true]; try omega)
      have h_57 := h_56.fr fr_41 (by simp only [List.mem_cons, List.not_mem_nil, or_false, not_or, not_false_eq_true]; try omega) (by simp only [List.mem_cons, List.not_mem_nil, or_false, not_or, not_false_eq_true]; try omega)
      have h_58 := h_57.fr fr_52 (by simp only [List.mem_cons, List.not_mem_nil, or_false, not_or, not_false_eq_true]; try omega) (by simp only [List.mem_cons, List.not_mem_nil, or_false, not_or, not_false_eq_true]; try omega)
      refine G_xV (rest := []) hC hR (c_Se_writeDotted h_54 h_58 (by omega)) cv_Se_54 ⟨_, _, h_54⟩ (by decide) (by omega) (by omega) rfl rfl (Nat.le_of_ble_eq_true rfl) d_Se_take_79 (fun r_61 M_59 p_60 => ?_)
      obtain ⟨rfl, h_62, fr_63⟩ := p_60
      show G E M_59 (0 + (psi 91 (addPB 91 (bm_5.1, []) b.2 0 (b.2.length : Int)) - psi 91 bm_5) + (psi 30 (addPB 30 (bl_6.1, []) b.2 0 (findS b.2 64 0 (b.2.length : Int))) - psi 30 bl_6) + (psi 60 (addPB 60 (bd_7.1, []) b.2 ((findS b.2 64 0 (b.2.length : Int)) + 1) (b.2.length : Int)) - psi 60 bd_7) + 0) (0 + (psi 91 (addPB 91 (bm_5.1, []) b.2 0 (b.2.length : Int)) - psi 91 bm_5) + (psi 30 (addPB 30 (bl_6.1, []) b.2 0 (findS b.2 64 0 (b.2.length : Int))) - psi 30 bl_6) + (psi 60 (addPB 60 (bd_7.1, []) b.2 ((findS b.2 64 0 (b.2.length : Int)) + 1) (b.2.length : Int)) - psi 60 bd_7) + 0) [(4, vI (findS b.2 64 0 (b.2.length : Int))), (3, vI (b.2.length : Int)), (0, .ref a), (1, .int ad), (2, .ref o)] [] 82
      refine G_iconst (i := 1) hC d_Se_take_82 ?_
      have h_64 := fr_63.at h_54 (by decide)
      have hS : sndS b.2 ad = some (b.2.take (findS b.2 64 0 (b.2.length : Int)).toNat, b.2.drop (findS b.2 64 0 (b.2.length : Int) + 1).toNat, ad) := if_pos ⟨c_20, c_21⟩
      have hn1 := nameL_ne c_21
      have hn2 := locaS_ne c_20
      have h_65 := h_30.fr fr_41 (by simp only [List.mem_cons, List.not_mem_nil, or_false, not_or, not_false_eq_true]; try omega) (by simp only [List.mem_cons, List.not_mem_nil, or_false, not_or, not_false_eq_true]; try omega)
      have h_66 := h_65.fr fr_52 (by simp only [List.mem_cons, List.not_mem_nil, or_false, not_or, not_false_eq_true]; try omega) (by simp only [List.mem_cons, List.not_mem_nil, or_false, not_or, not_false_eq_true]; try omega)
      have h_67 := h_66.fr fr_63 (by decide) (by decide)
      have h_68 := h_40.fr fr_52 (by simp only [List.mem_cons, List.not_mem_nil, or_false, not_or, not_false_eq_true]; try omega) (by simp only [List.mem_cons, List.not_mem_nil, or_false, not_or, not_false_eq_true]; try omega)
      have h_69 := h_68.fr fr_63 (by decide) (by decide)
      have h_70 := h_51.fr fr_63 (by decide) (by decide)
      have hrows := sndS_rows ad bm_5.1 bl_6.1 bd_7.1 h_B_o.rng c_20 c_21
      exact G_zretX _ hC hQ (by omega) (by omega) d_Se_take_83 (b2i_t (by rw [hS]; rfl)) ⟨rfl, by rw [hS]; exact ⟨_, _, _, _, _, _, _, _, _, h_64, h_67, h_69, h_70, h_62, h_15, (fun z => by cases z), (fun s9 z => by cases z; exact ⟨hrows.1, hrows.2.1, hrows.2.2.1, hrows.2.2.2, rfl, rfl⟩)⟩, (((((fr_24.up (T := [8, 9, 10, 11, 12, 13, 14, 15, 16]) (by simp)).tr' (T := [8, 9, 10, 11, 12, 13, 14, 15, 16]) fr_31 (fun _ z => z) (by simp)).tr' (T := [8, 9, 10, 11, 12, 13, 14, 15, 16]) fr_41 (fun _ z => z) (by simp)).tr' (T := [8, 9, 10, 11, 12, 13, 14, 15, 16]) fr_52 (fun _ z => z) (by simp)).tr' (T := [8, 9, 10, 11, 12, 13, 14, 15, 16]) fr_63 (fun _ z => z) (by simp))⟩
    · have c_21 := b2i_eq0.mp c_21
      refine G_iconst (i := 0) hC d_Se_take_37 ?_
      have hS : sndS b.2 ad = none := if_neg (fun z => by first | (have z1 := z.1; rw [z1] at c_21; cases c_21) | (have z2 := z.2; rw [z2] at c_21; cases c_21))
      exact G_zretX _ hC hQ (by omega) (by omega) d_Se_take_38 (b2i_f (by rw [hS]; rfl)) ⟨rfl, by rw [hS]; exact h_Se_a, Fr.rf⟩
end
section
/-! MACROS WRITTEN: rows that grow, step by step as the class writes -/
theorem stL_yes {xs : List Int} {k : Int} (h : k ≤ xs.length) (c : k = xs.length ∨ atS xs k = 46) : stL xs k = (k + 1) :: stL xs (k + 1) := by
  rw [stL, dif_pos h, if_pos c]
theorem stL_no {xs : List Int} {k : Int} (h : k ≤ xs.length) (c : ¬ (k = xs.length ∨ atS xs k = 46)) : stL xs k = stL xs (k + 1) := by
  rw [stL, dif_pos h, if_neg c]
theorem stL_end {xs : List Int} {k : Int} (h : ¬ k ≤ xs.length) : stL xs k = [] := by
  rw [stL, dif_neg h]
theorem stL_len (xs : List Int) : ∀ (N : Nat) (k : Int), (xs.length + 1 - k).toNat < N → ((stL xs k).length : Int) ≤ max 0 (xs.length + 1 - k) ∧ (k ≤ xs.length → 1 ≤ (stL xs k).length) ∧ ∀ x ∈ stL xs k, k + 1 ≤ x ∧ x ≤ xs.length + 1 := by
  intro N
  induction N with
  | zero => intro k h; omega
  | succ N ih =>
    intro k h
    by_cases hk : k ≤ xs.length
    · have h1 := ih (k + 1) (by omega)
      by_cases c : k = xs.length ∨ atS xs k = 46
      · rw [stL_yes hk c, List.length_cons]
        refine ⟨by omega, fun _ => by omega, fun x hx => ?_⟩
        rcases List.mem_cons.mp hx with rfl | hx
        · omega
        · have := h1.2.2 x hx
          omega
      · rw [stL_no hk c]
        refine ⟨by omega, fun _ => ?_, fun x hx => ?_⟩
        · exact h1.2.1 (by omega)
        · have := h1.2.2 x hx
          omega
    · rw [stL_end hk]
      exact ⟨by simp; omega, fun z => absurd z hk, fun x hx => absurd hx List.not_mem_nil⟩
theorem stL_pos {xs : List Int} {k : Int} (h : k ≤ xs.length) : 1 ≤ (stL xs k).length := (stL_len xs _ k (Nat.lt_succ_self _)).2.1 h
theorem stL_top (xs : List Int) : ((stL xs 0).length : Int) ≤ xs.length + 1 := by
  have := (stL_len xs _ 0 (Nat.lt_succ_self _)).1
  omega
def stG (xs : List Int) (j : Int) : Int := (0 :: stL xs 0).getD j.toNat 0
theorem stG_rng (xs : List Int) (j : Int) : 0 ≤ stG xs j ∧ stG xs j ≤ xs.length + 1 := by
  unfold stG
  by_cases h : j.toNat < (0 :: stL xs 0).length
  · rw [gD_lt h]
    have hm : (0 :: stL xs 0)[j.toNat] ∈ 0 :: stL xs 0 := List.getElem_mem h
    rcases List.mem_cons.mp hm with h1 | h1
    · rw [h1]
      omega
    · have := (stL_len xs _ 0 (Nat.lt_succ_self _)).2.2 _ h1
      omega
  · rw [gD_ge (by omega)]
    omega
theorem drop_next {α : Type} {l r : List α} {n : Nat} {x : α} (h : l.drop n = x :: r) : l.drop (n + 1) = r := by
  rw [← List.drop_drop, h]
  rfl
theorem drop_head {l r : List Int} {n : Nat} {x : Int} (h : l.drop n = x :: r) : l.getD n 0 = x := by
  have h1 : n < l.length := by
    apply Decidable.byContradiction
    intro hn
    rw [List.drop_eq_nil_of_le (by omega)] at h
    cases h
  rw [List.drop_eq_getElem_cons h1] at h
  rw [gD_lt h1]
  exact (List.cons.inj h).1
def wsB (lim : Int) (b : Bv) (c : Int) : Bv := if c = 37 then addB lim b 37 else if c = 95 then addB lim b 32 else addB lim (addB lim (addB lim b 37) 50) 48
def wpL (lim : Int) (xs : List Int) (first : Int) (turned : Bool) (k : Int) (b : Bv) : Bv :=
  if h : k < (stL xs 0).length then wpL lim xs first turned (k + 1) (addPB lim (if first < k then addB lim b 46 else b) xs (stG xs (if turned = true then (stL xs 0).length - 1 - k else k)) (stG xs ((if turned = true then (stL xs 0).length - 1 - k else k) + 1) - 1)) else b
termination_by ((stL xs 0).length - k).toNat
decreasing_by all_goals omega
def wpB (lim : Int) (b : Bv) (xs : List Int) (most : Int) (turned : Bool) : Bv := wpL lim xs (max 0 ((stL xs 0).length - most)) turned (max 0 ((stL xs 0).length - most)) b
/-- rows only grow -/
abbrev grP (lim : Int) (b b' : Bv) : Prop := psi lim b ≤ psi lim b' ∧ b'.2.length ≤ b'.1 ∧ (b'.1 : Int) ≤ lim
theorem gr_rf {lim : Int} {b : Bv} (h : b.2.length ≤ b.1 ∧ (b.1 : Int) ≤ lim) : grP lim b b := ⟨Nat.le_refl _, h⟩
theorem gr_tr {lim : Int} {a b c : Bv} (h1 : grP lim a b) (h2 : grP lim b c) : grP lim a c := ⟨Nat.le_trans h1.1 h2.1, h2.2⟩
theorem wsB_gr {lim : Int} {b : Bv} (c : Int) (h : b.2.length ≤ b.1 ∧ (b.1 : Int) ≤ lim) : grP lim b (wsB lim b c) := by
  unfold wsB
  split
  · exact psi_addB _ h
  · split
    · exact psi_addB _ h
    · have h1 := psi_addB (lim := lim) (b := b) 37 h
      have h2 := psi_addB 50 h1.2
      have h3 := psi_addB 48 h2.2
      exact gr_tr (gr_tr h1 h2) h3
theorem wpL_gr {lim : Int} {xs : List Int} {first : Int} {tu : Bool} : ∀ (N : Nat) (k : Int) (b : Bv), ((stL xs 0).length - k).toNat < N → b.2.length ≤ b.1 ∧ (b.1 : Int) ≤ lim → grP lim b (wpL lim xs first tu k b) := by
  intro N
  induction N with
  | zero => intro k b h; omega
  | succ N ih =>
    intro k b h hb
    rw [wpL]
    split
    · have h1 : grP lim b (if first < k then addB lim b 46 else b) := by
        split
        · exact psi_addB _ hb
        · exact gr_rf hb
      exact gr_tr (gr_tr h1 (psi_addPB _ _ _ h1.2)) (ih (k + 1) _ (by omega) (psi_addPB _ _ _ h1.2).2)
    · exact gr_rf hb
theorem wpB_gr {lim : Int} {b : Bv} (xs : List Int) (most : Int) (tu : Bool) (h : b.2.length ≤ b.1 ∧ (b.1 : Int) ≤ lim) : grP lim b (wpB lim b xs most tu) := wpL_gr _ _ _ (Nat.lt_succ_self _) h
def mostS (s : Snd) (chk xs : List Int) (k : Int) : Int := if pnP (atS xs (k + 3)) then atS xs (k + 3) - 48 else (srcS s chk (atS xs (k + 2))).length + 1
def wrL (lim : Int) (s : Snd) (chk xs : List Int) (to k : Int) (b : Bv) : Bv :=
  if h : k < to then
    (if h1 : atS xs k = 37 ∧ ¬ mlenS xs k to = 0 then
      wrL lim s chk xs to (k + mlenS xs k to) (if mlenS xs k to = 2 then wsB lim b (atS xs (k + 1)) else wpB lim b (srcS s chk (atS xs (k + 2))) (mostS s chk xs k) (decide (atS xs (k + mlenS xs k to - 2) = 114)))
    else wrL lim s chk xs to (k + 1) (addB lim b (atS xs k)))
  else b
termination_by (to - k).toNat
decreasing_by
  · have h9 := mlenS_rng xs k to
    omega
  · omega
theorem wrL_gr {lim : Int} {s : Snd} {chk xs : List Int} {to : Int} : ∀ (N : Nat) (k : Int) (b : Bv), (to - k).toNat < N → b.2.length ≤ b.1 ∧ (b.1 : Int) ≤ lim → grP lim b (wrL lim s chk xs to k b) := by
  intro N
  induction N with
  | zero => intro k b h; omega
  | succ N ih =>
    intro k b h hb
    rw [wrL]
    split
    · split
      · have h9 := mlenS_rng xs k to
        have h1 : grP lim b (if mlenS xs k to = 2 then wsB lim b (atS xs (k + 1)) else wpB lim b (srcS s chk (atS xs (k + 2))) (mostS s chk xs k) (decide (atS xs (k + mlenS xs k to - 2) = 114))) := by
          split
          · exact wsB_gr _ hb
          · exact wpB_gr _ _ _ hb
        exact gr_tr h1 (ih _ _ (by omega) h1.2)
      · exact gr_tr (psi_addB _ hb) (ih _ _ (by omega) (psi_addB _ hb).2)
    · exact gr_rf hb
theorem srcS_len {s : Snd} {chk : List Int} {c : Int} (hs : sndP s) (hc : chk.length ≤ 91) : (srcS s chk c).length ≤ 91 := by
  unfold srcS
  have l1 := numS_len (v := s.2.2.toInt / 16777216 % 256)
  have l2 := numS_len (v := s.2.2.toInt / 65536 % 256)
  have l3 := numS_len (v := s.2.2.toInt / 256 % 256)
  have l4 := numS_len (v := s.2.2.toInt % 256)
  obtain ⟨q1, q2, q3, q4⟩ := hs
  repeat' split
  · simp only [List.length_append, List.length_singleton]
    omega
  · omega
  · omega
  · unfold dotS
    simp only [List.length_append, List.length_singleton]
    omega
  · exact hc
theorem starts_0 (g : Nat → Int) (l : List Int) : ∀ j : Nat, (j : Int) ≤ 0 → updZ g (0 : Int).toNat 0 j = (0 :: l).getD j 0 := by
  intro j hj
  have : j = 0 := by omega
  subst this
  rfl
theorem starts_step {g : Nat → Int} {l r : List Int} {parts k : Int} (hG : ∀ j : Nat, (j : Int) ≤ parts → g j = (0 :: l).getD j 0) (hd : l.drop parts.toNat = (k + 1) :: r) (h0 : 0 ≤ parts) : ∀ j : Nat, (j : Int) ≤ parts + 1 → updZ g (parts + 1).toNat (k + 1) j = (0 :: l).getD j 0 := by
  intro j hj
  unfold updZ
  by_cases h : j = (parts + 1).toNat
  · rw [if_pos h, h, show (parts + 1).toNat = parts.toNat + 1 by omega]
    show k + 1 = l.getD parts.toNat 0
    exact (drop_head hd).symm
  · rw [if_neg h]
    exact hG j (by omega)
end
section
set_option maxHeartbeats 4000000 in
set_option maxRecDepth 100000 in
theorem c_Ma_writeSign {l : Launch} {D : Dg} {b0 : Nat} {M : Mp} {c : Int} {o : Nat} {t : Nat} {lim : Int} {b : Bv} (h_B_o : IsB D M o t lim b) (hc : -2147483648 ≤ c ∧ c ≤ 2147483647) : Ok l D b0 4 y_Ma_writeSign b_Ma_writeSign 2 none M [vI c, .ref o] (psi lim (wsB lim b c) - psi lim b) (psi lim (wsB lim b c) - psi lim b) (fun r M' => r = none ∧ IsB D M' o t lim (wsB lim b c) ∧ Fr [t, t + 1] M M') := by
  rcases (show c = 37 ∨ c = 95 ∨ (¬ c = 37 ∧ ¬ c = 95) by omega) with hv1 | hv1 | hv1
  · refine Ok_of rfl (Nat.le_of_ble_eq_true rfl) (fun E hC hQ hl hD hB hN hR => ?_)
    subst hl hD hB
    have hB9 := h_B_o.len
    have hE : wsB lim b c = addB lim b 37 := by unfold wsB; rw [if_pos (by omega)]
    have hp1 := psi_addB (lim := lim) (b := b) (37) ⟨by omega, by omega⟩
    rw [hE] at hQ hR
    show G E M 0 0 [(0, vI c), (1, .ref o)] [] 0
    refine G_iload_n hC 0 rfl rfl d_Ma_writeSign_0 ?_
    refine G_bipush (j := 37) hC (by decide +kernel) d_Ma_writeSign_1 ?_
    refine G_icmp_ne hC 15 (by omega) (by decide) (by decide) d_Ma_writeSign_3 (fun c_1 => ?_) (fun c_1 => ?_)
    · exact (show False from by omega).elim
    · refine G_aload_n hC 1 rfl rfl d_Ma_writeSign_6 ?_
      refine G_bipush (j := 37) hC (by decide +kernel) d_Ma_writeSign_7 ?_
      refine G_xV (rest := []) hC hR (c_By_add h_B_o (by omega)) cv_Ma_36 h_B_o.obj (by decide) (by omega) (by omega) rfl rfl (Nat.le_of_ble_eq_true rfl) d_Ma_writeSign_9 (fun r_4 M_2 p_3 => ?_)
      obtain ⟨rfl, h_5, fr_6⟩ := p_3
      show G E M_2 (0 + (psi lim (addB lim b 37) - psi lim b)) (0 + (psi lim (addB lim b 37) - psi lim b)) [(0, vI c), (1, .ref o)] [] 12
      have g_7 := psi_addB (lim := lim) (b := b) 37 ⟨h_B_o.len.1, h_B_o.len.2.1⟩
      refine G_goto hC 48 (by decide) d_Ma_writeSign_12 ?_
      exact G_return hC hQ (by omega) (by omega) d_Ma_writeSign_48 ⟨rfl, h_5, (fr_6.up (T := [t, t + 1]) (by simp))⟩
  · refine Ok_of rfl (Nat.le_of_ble_eq_true rfl) (fun E hC hQ hl hD hB hN hR => ?_)
    subst hl hD hB
    have hB9 := h_B_o.len
    have hE : wsB lim b c = addB lim b 32 := by unfold wsB; rw [if_neg (by omega), if_pos (by omega)]
    have hp1 := psi_addB (lim := lim) (b := b) (32) ⟨by omega, by omega⟩
    rw [hE] at hQ hR
    show G E M 0 0 [(0, vI c), (1, .ref o)] [] 0
    refine G_iload_n hC 0 rfl rfl d_Ma_writeSign_0 ?_
    refine G_bipush (j := 37) hC (by decide +kernel) d_Ma_writeSign_1 ?_
    refine G_icmp_ne hC 15 (by omega) (by decide) (by decide) d_Ma_writeSign_3 (fun c_8 => ?_) (fun c_8 => ?_)
    · refine G_iload_n hC 0 rfl rfl d_Ma_writeSign_15 ?_
      refine G_bipush (j := 95) hC (by decide +kernel) d_Ma_writeSign_16 ?_
      refine G_icmp_ne hC 30 (by omega) (by decide) (by decide) d_Ma_writeSign_18 (fun c_9 => ?_) (fun c_9 => ?_)
      · exact (show False from by omega).elim
      · refine G_aload_n hC 1 rfl rfl d_Ma_writeSign_21 ?_
        refine G_bipush (j := 32) hC (by decide +kernel) d_Ma_writeSign_22 ?_
        refine G_xV (rest := []) hC hR (c_By_add h_B_o (by omega)) cv_Ma_36 h_B_o.obj (by decide) (by omega) (by omega) rfl rfl (Nat.le_of_ble_eq_true rfl) d_Ma_writeSign_24 (fun r_12 M_10 p_11 => ?_)
        obtain ⟨rfl, h_13, fr_14⟩ := p_11
        show G E M_10 (0 + (psi lim (addB lim b 32) - psi lim b)) (0 + (psi lim (addB lim b 32) - psi lim b)) [(0, vI c), (1, .ref o)] [] 27
        have g_15 := psi_addB (lim := lim) (b := b) 32 ⟨h_B_o.len.1, h_B_o.len.2.1⟩
        refine G_goto hC 48 (by decide) d_Ma_writeSign_27 ?_
        exact G_return hC hQ (by omega) (by omega) d_Ma_writeSign_48 ⟨rfl, h_13, (fr_14.up (T := [t, t + 1]) (by simp))⟩
    · exact (show False from by omega).elim
  · refine Ok_of rfl (Nat.le_of_ble_eq_true rfl) (fun E hC hQ hl hD hB hN hR => ?_)
    subst hl hD hB
    have hB9 := h_B_o.len
    have hE : wsB lim b c = addB lim (addB lim (addB lim b 37) 50) 48 := by unfold wsB; rw [if_neg (by omega), if_neg (by omega)]
    have hp1 := psi_addB (lim := lim) (b := b) (37) ⟨by omega, by omega⟩
    have hp2 := psi_addB (50) hp1.2
    have hp3 := psi_addB (48) hp2.2
    rw [hE] at hQ hR
    show G E M 0 0 [(0, vI c), (1, .ref o)] [] 0
    refine G_iload_n hC 0 rfl rfl d_Ma_writeSign_0 ?_
    refine G_bipush (j := 37) hC (by decide +kernel) d_Ma_writeSign_1 ?_
    refine G_icmp_ne hC 15 (by omega) (by decide) (by decide) d_Ma_writeSign_3 (fun c_16 => ?_) (fun c_16 => ?_)
    · refine G_iload_n hC 0 rfl rfl d_Ma_writeSign_15 ?_
      refine G_bipush (j := 95) hC (by decide +kernel) d_Ma_writeSign_16 ?_
      refine G_icmp_ne hC 30 (by omega) (by decide) (by decide) d_Ma_writeSign_18 (fun c_17 => ?_) (fun c_17 => ?_)
      · refine G_aload_n hC 1 rfl rfl d_Ma_writeSign_30 ?_
        refine G_bipush (j := 37) hC (by decide +kernel) d_Ma_writeSign_31 ?_
        refine G_xV (rest := []) hC hR (c_By_add h_B_o (by omega)) cv_Ma_36 h_B_o.obj (by decide) (by omega) (by omega) rfl rfl (Nat.le_of_ble_eq_true rfl) d_Ma_writeSign_33 (fun r_20 M_18 p_19 => ?_)
        obtain ⟨rfl, h_21, fr_22⟩ := p_19
        show G E M_18 (0 + (psi lim (addB lim b 37) - psi lim b)) (0 + (psi lim (addB lim b 37) - psi lim b)) [(0, vI c), (1, .ref o)] [] 36
        have g_23 := psi_addB (lim := lim) (b := b) 37 ⟨h_B_o.len.1, h_B_o.len.2.1⟩
        refine G_aload_n hC 1 rfl rfl d_Ma_writeSign_36 ?_
        refine G_bipush (j := 50) hC (by decide +kernel) d_Ma_writeSign_37 ?_
        refine G_xV (rest := []) hC hR (c_By_add h_21 (by omega)) cv_Ma_36 h_21.obj (by decide) (by omega) (by omega) rfl rfl (Nat.le_of_ble_eq_true rfl) d_Ma_writeSign_39 (fun r_26 M_24 p_25 => ?_)
        obtain ⟨rfl, h_27, fr_28⟩ := p_25
        show G E M_24 (0 + (psi lim (addB lim b 37) - psi lim b) + (psi lim (addB lim (addB lim b 37) 50) - psi lim (addB lim b 37))) (0 + (psi lim (addB lim b 37) - psi lim b) + (psi lim (addB lim (addB lim b 37) 50) - psi lim (addB lim b 37))) [(0, vI c), (1, .ref o)] [] 42
        have g_29 := psi_addB (lim := lim) (b := (addB lim b 37)) 50 ⟨h_21.len.1, h_21.len.2.1⟩
        refine G_aload_n hC 1 rfl rfl d_Ma_writeSign_42 ?_
        refine G_bipush (j := 48) hC (by decide +kernel) d_Ma_writeSign_43 ?_
        refine G_xV (rest := []) hC hR (c_By_add h_27 (by omega)) cv_Ma_36 h_27.obj (by decide) (by omega) (by omega) rfl rfl (Nat.le_of_ble_eq_true rfl) d_Ma_writeSign_45 (fun r_32 M_30 p_31 => ?_)
        obtain ⟨rfl, h_33, fr_34⟩ := p_31
        show G E M_30 (0 + (psi lim (addB lim b 37) - psi lim b) + (psi lim (addB lim (addB lim b 37) 50) - psi lim (addB lim b 37)) + (psi lim (addB lim (addB lim (addB lim b 37) 50) 48) - psi lim (addB lim (addB lim b 37) 50))) (0 + (psi lim (addB lim b 37) - psi lim b) + (psi lim (addB lim (addB lim b 37) 50) - psi lim (addB lim b 37)) + (psi lim (addB lim (addB lim (addB lim b 37) 50) 48) - psi lim (addB lim (addB lim b 37) 50))) [(0, vI c), (1, .ref o)] [] 48
        have g_35 := psi_addB (lim := lim) (b := (addB lim (addB lim b 37) 50)) 48 ⟨h_27.len.1, h_27.len.2.1⟩
        exact G_return hC hQ (by omega) (by omega) d_Ma_writeSign_48 ⟨rfl, h_33, (((fr_22.up (T := [t, t + 1]) (by simp)).tr' (T := [t, t + 1]) fr_28 (fun _ z => z) (by simp)).tr' (T := [t, t + 1]) fr_34 (fun _ z => z) (by simp))⟩
      · exact (show False from by omega).elim
    · exact (show False from by omega).elim

set_option maxHeartbeats 4000000 in
set_option maxRecDepth 100000 in
theorem c_Ma_writeParts {l : Launch} {D : Dg} {b0 : Nat} {M : Mp} {a : Nat} {p : Nat} {most : Int} {tu : Bool} {o : Nat} {se : Nat} {t2 : Nat} {lim2 : Int} {b2 : Bv} {t : Nat} {lim : Int} {b : Bv} {W : Bv} (h_Ma_a : IsMa D M a se) (h_B_p : IsB D M p t2 lim2 b2) (h_B_o : IsB D M o t lim b) (hlen : b2.2.length ≤ 91) (hmost : 0 ≤ most ∧ most ≤ 1000) (htt : t2 ≠ t ∧ t2 ≠ t + 1 ∧ t2 + 1 ≠ t ∧ t2 + 1 ≠ t + 1) (ht18 : (t + 1 < 17 ∨ 18 < t) ∧ (t2 + 1 < 17 ∨ 18 < t2)) (hr : wpB lim b b2.2 most tu = W) : Ok l D b0 5 y_Ma_writeParts b_Ma_writeParts 9 none M [.ref a, .ref p, vI most, vI (b2i tu), .ref o] (psi lim W - psi lim b) (psi lim W - psi lim b) (fun r M' => r = none ∧ IsB D M' o t lim W ∧ IsMa D M' a se ∧ Fr [t, t + 1, 18] M M') := by
  refine Ok_of rfl (Nat.le_of_ble_eq_true rfl) (fun E hC hQ hl hD hB hN hR => ?_)
  subst hl hD hB
  have hB9 := h_B_o.len
  have hS9 := h_B_p.len
  have hst9 := stL_top b2.2
  obtain ⟨r0, g0, hm1, hm2⟩ := id h_Ma_a
  have hW0 := wpB_gr (lim := lim) (b := b) b2.2 most tu ⟨by omega, by omega⟩
  rw [hr] at hW0
  unfold wpB at hr
  show G E M 0 0 [(0, .ref a), (1, .ref p), (2, vI most), (3, vI (b2i tu)), (4, .ref o)] [] 0
  refine G_iconst (i := 0) hC d_Ma_writeParts_0 ?_
  refine G_istore (lv' := [(5, vI 0), (0, .ref a), (1, .ref p), (2, vI most), (3, vI (b2i tu)), (4, .ref o)]) hC (by rw [hN]; decide) rfl d_Ma_writeParts_1 ?_
  refine G_aload_n hC 1 rfl rfl d_Ma_writeParts_3 ?_
  refine G_get hC fl_Ma_15 hm1 rfl d_Ma_writeParts_4 ?_
  refine G_iconst (i := 0) hC d_Ma_writeParts_7 ?_
  refine G_iconst (i := 0) hC d_Ma_writeParts_8 ?_
  refine G_iastX hC hm2 (by omega) (by omega) d_Ma_writeParts_9 (fun M_1 h_2 fr_3 => ?_)
  refine G_iconst (i := 0) hC d_Ma_writeParts_10 ?_
  refine G_istore (lv' := [(6, vI 0), (5, vI 0), (0, .ref a), (1, .ref p), (2, vI most), (3, vI (b2i tu)), (4, .ref o)]) hC (by rw [hN]; decide) rfl d_Ma_writeParts_11 ?_
  have L13 : ∀ (N : Nat) (M1 : Mp) (parts : Int) (k : Int) (g : Nat → Int), (b2.2.length + 1 - k).toNat < N → (Fr [18] M_1 M1) → (M1 r0 = some (18, arI (eD E) 93 g)) → (0 ≤ k ∧ k ≤ b2.2.length + 1 ∧ 0 ≤ parts ∧ parts ≤ k) → (parts + ((stL b2.2 k).length : Int) = ((stL b2.2 0).length : Int)) → ((stL b2.2 0).drop parts.toNat = stL b2.2 k) → (∀ j : Nat, (j : Int) ≤ parts → g j = (0 :: stL b2.2 0).getD j 0) → G E M1 0 0 [(0, .ref a), (1, .ref p), (2, vI most), (3, vI (b2i tu)), (4, .ref o), (5, vI parts), (6, vI k)] [] 13 := by
    intro N
    induction N with
    | zero => intro M1 parts k g hN13 hfr1 hm3 hk hA hBd hG; exact absurd hN13 (Nat.not_lt_zero _)
    | succ N ih13 =>
      intro M1 parts k g hN13 hfr1 hm3 hk hA hBd hG
      refine G_iload hC 6 rfl d_Ma_writeParts_13 ?_
      refine G_aload_n hC 1 rfl rfl d_Ma_writeParts_15 ?_
      have h_4 := h_B_p.fr fr_3 (by simp only [List.mem_cons, List.not_mem_nil, or_false, not_or, not_false_eq_true]; try omega) (by simp only [List.mem_cons, List.not_mem_nil, or_false, not_or, not_false_eq_true]; try omega)
      have h_5 := h_4.fr hfr1 (by simp only [List.mem_cons, List.not_mem_nil, or_false, not_or, not_false_eq_true]; try omega) (by simp only [List.mem_cons, List.not_mem_nil, or_false, not_or, not_false_eq_true]; try omega)
      refine G_pV (rest := [vI k]) hC hR (c_By_size h_5) cv_Ma_50 h_5.obj (by decide) (by omega) (by omega) rfl rfl (Nat.le_of_ble_eq_true rfl) d_Ma_writeParts_16 ?_
      have g_6 := h_5.len
      refine G_icmp_gt hC 74 (by omega) (by omega) (by decide) d_Ma_writeParts_19 (fun c_7 => ?_) (fun c_7 => ?_)
      · rw [stL_end (by omega), List.length_nil] at hA
        obtain rfl : parts = ((stL b2.2 0).length : Int) := by omega
        refine G_iconst (i := 0) hC d_Ma_writeParts_74 ?_
        refine G_iload hC 5 rfl d_Ma_writeParts_75 ?_
        refine G_iload_n hC 2 rfl rfl d_Ma_writeParts_77 ?_
        refine G_isub hC d_Ma_writeParts_78 ?_
        refine G_maxX (c := max 0 (((stL b2.2 0).length : Int) - most)) hC hR lm_Ma_58 (by omega) (by omega) (by omega) (Nat.le_of_ble_eq_true rfl) (Nat.le_of_ble_eq_true rfl) (by omega) (by omega) d_Ma_writeParts_79 ?_
        refine G_istore (lv' := [(6, vI (max 0 (((stL b2.2 0).length : Int) - most))), (0, .ref a), (1, .ref p), (2, vI most), (3, vI (b2i tu)), (4, .ref o), (5, vI ((stL b2.2 0).length : Int))]) hC (by rw [hN]; decide) rfl d_Ma_writeParts_82 ?_
        refine G_iload hC 0 rfl d_Ma_writeParts_84 ?_
        refine G_istore (lv' := [(7, vI (max 0 (((stL b2.2 0).length : Int) - most))), (6, vI (max 0 (((stL b2.2 0).length : Int) - most))), (0, .ref a), (1, .ref p), (2, vI most), (3, vI (b2i tu)), (4, .ref o), (5, vI ((stL b2.2 0).length : Int))]) hC (by rw [hN]; decide) rfl d_Ma_writeParts_86 ?_
        have L88 : ∀ (N : Nat) (M2 : Mp) (k2 : Int) (bb : Bv), (((stL b2.2 0).length : Int) - k2).toNat < N → (Fr [t, t + 1] M1 M2) → (IsB (eD E) M2 o t lim bb) → (max 0 (((stL b2.2 0).length : Int) - most) ≤ k2 ∧ k2 ≤ max (max 0 (((stL b2.2 0).length : Int) - most)) ((stL b2.2 0).length : Int)) → (wpL lim b2.2 (max 0 (((stL b2.2 0).length : Int) - most)) tu k2 bb = W) → (grP lim b bb) → G E M2 (psi lim bb - psi lim b) (psi lim bb - psi lim b) [(0, .ref a), (1, .ref p), (2, vI most), (3, vI (b2i tu)), (4, .ref o), (5, vI ((stL b2.2 0).length : Int)), (6, vI (max 0 (((stL b2.2 0).length : Int) - most))), (7, vI k2)] [] 88 := by
          intro N
          induction N with
          | zero => intro M2 k2 bb hN88 hfr2 hb2 hk2 hW hP; exact absurd hN88 (Nat.not_lt_zero _)
          | succ N ih88 =>
            intro M2 k2 bb hN88 hfr2 hb2 hk2 hW hP
            have hb2l := hb2.len
            refine G_iload hC 7 rfl d_Ma_writeParts_88 ?_
            refine G_iload hC 5 rfl d_Ma_writeParts_90 ?_
            refine G_icmp_ge hC 157 (by omega) (by omega) (by decide) d_Ma_writeParts_92 (fun c_8 => ?_) (fun c_8 => ?_)
            · rw [wpL, dif_neg (by omega)] at hW
              have hpw : psi lim bb = psi lim W := by rw [hW]
              have h_9 := fr_3.at hm1 (by decide)
              have h_10 := hfr1.at h_9 (by decide)
              have h_11 := hfr2.at h_10 (by simp only [List.mem_cons, List.not_mem_nil, or_false, not_or, not_false_eq_true]; try omega)
              have h_12 := hfr2.at hm3 (by simp only [List.mem_cons, List.not_mem_nil, or_false, not_or, not_false_eq_true]; try omega)
              exact G_return hC hQ (by omega) (by omega) d_Ma_writeParts_157 ⟨rfl, by rw [← hW]; exact hb2, ⟨r0, _, h_11, h_12⟩, (((fr_3.up (T := [t, t + 1, 18]) (by simp)).tr' (T := [t, t + 1, 18]) hfr1 (fun _ z => z) (by simp)).tr' (T := [t, t + 1, 18]) hfr2 (fun _ z => z) (by simp))⟩
            · rw [wpL, dif_pos (by omega)] at hW
              refine G_iload_n hC 3 rfl rfl d_Ma_writeParts_95 ?_
              refine G_if_eq hC 109 (by have := b2i_rng tu; omega) (by decide) d_Ma_writeParts_96 (fun c_13 => ?_) (fun c_13 => ?_)
              · have c_13 := b2i_eq0.mp c_13
                rw [if_neg (show ¬ tu = true from by rw [c_13]; decide)] at hW
                refine G_iload hC 7 rfl d_Ma_writeParts_109 ?_
                refine G_istore (lv' := [(8, vI k2), (0, .ref a), (1, .ref p), (2, vI most), (3, vI (b2i tu)), (4, .ref o), (5, vI ((stL b2.2 0).length : Int)), (6, vI (max 0 (((stL b2.2 0).length : Int) - most))), (7, vI k2)]) hC (by rw [hN]; decide) rfl d_Ma_writeParts_111 ?_
                refine G_iload hC 8 rfl d_Ma_writeParts_113 ?_
                refine G_iload hC 7 rfl d_Ma_writeParts_115 ?_
                refine G_icmp_le hC 127 (by omega) (by omega) (by decide) d_Ma_writeParts_117 (fun c_14 => ?_) (fun c_14 => ?_)
                · rw [if_neg (show ¬ max 0 (((stL b2.2 0).length : Int) - most) < k2 from by omega)] at hW
                  have hq1 := gr_rf (lim := lim) (b := bb) hP.2
                  have hr1 := stG_rng b2.2 (k2)
                  have hr2 := stG_rng b2.2 (k2 + 1)
                  have hq2 := psi_addPB (lim := lim) (b := bb) b2.2 (stG b2.2 (k2)) (stG b2.2 (k2 + 1) - 1) hq1.2
                  have hq3 := wpL_gr (lim := lim) (xs := b2.2) (first := max 0 (((stL b2.2 0).length : Int) - most)) (tu := tu) _ (k2 + 1) _ (Nat.lt_succ_self _) hq2.2
                  rw [hW] at hq3
                  have hgr := gr_tr hq1 hq2
                  refine G_aload hC 5 rfl d_Ma_writeParts_127 ?_
                  refine G_aload_n hC 2 rfl rfl d_Ma_writeParts_129 ?_
                  refine G_aload_n hC 1 rfl rfl d_Ma_writeParts_130 ?_
                  have h_15 := fr_3.at hm1 (by decide)
                  have h_16 := hfr1.at h_15 (by decide)
                  have h_17 := hfr2.at h_16 (by simp only [List.mem_cons, List.not_mem_nil, or_false, not_or, not_false_eq_true]; try omega)
                  refine G_get hC fl_Ma_15 h_17 rfl d_Ma_writeParts_131 ?_
                  refine G_iload hC 0 rfl d_Ma_writeParts_134 ?_
                  have h_18 := hfr2.at hm3 (by simp only [List.mem_cons, List.not_mem_nil, or_false, not_or, not_false_eq_true]; try omega)
                  refine G_iald hC h_18 (by omega) (by omega) d_Ma_writeParts_136 ?_
                  refine G_top (b := stG b2.2 (k2)) (hG _ (by omega)) ?_
                  refine G_aload_n hC 1 rfl rfl d_Ma_writeParts_137 ?_
                  refine G_get hC fl_Ma_15 h_17 rfl d_Ma_writeParts_138 ?_
                  refine G_iload hC 0 rfl d_Ma_writeParts_141 ?_
                  refine G_iconst (i := 1) hC d_Ma_writeParts_143 ?_
                  refine G_iadd hC d_Ma_writeParts_144 ?_
                  refine G_iald hC h_18 (by omega) (by omega) d_Ma_writeParts_145 ?_
                  refine G_top (b := stG b2.2 (k2 + 1)) (hG _ (by omega)) ?_
                  refine G_iconst (i := 1) hC d_Ma_writeParts_146 ?_
                  refine G_isub hC d_Ma_writeParts_147 ?_
                  have h_19 := h_5.fr hfr2 (by simp only [List.mem_cons, List.not_mem_nil, or_false, not_or, not_false_eq_true]; try omega) (by simp only [List.mem_cons, List.not_mem_nil, or_false, not_or, not_false_eq_true]; try omega)
                  refine G_xV (rest := []) hC hR (c_By_addPart hb2 h_19 (by omega) (by omega) htt) cv_Ma_64 hb2.obj (by decide) (by omega) (by omega) rfl rfl (Nat.le_of_ble_eq_true rfl) d_Ma_writeParts_148 (fun r_22 M_20 p_21 => ?_)
                  obtain ⟨rfl, h_23, fr_24⟩ := p_21
                  show G E M_20 (psi lim bb - psi lim b + (psi lim (addPB lim bb b2.2 (stG b2.2 (k2)) ((stG b2.2 (k2 + 1)) - 1)) - psi lim bb)) (psi lim bb - psi lim b + (psi lim (addPB lim bb b2.2 (stG b2.2 (k2)) ((stG b2.2 (k2 + 1)) - 1)) - psi lim bb)) [(8, vI k2), (0, .ref a), (1, .ref p), (2, vI most), (3, vI (b2i tu)), (4, .ref o), (5, vI ((stL b2.2 0).length : Int)), (6, vI (max 0 (((stL b2.2 0).length : Int) - most))), (7, vI k2)] [] 151
                  have g_25 := psi_addPB (lim := lim) (b := bb) b2.2 (stG b2.2 (k2)) ((stG b2.2 (k2 + 1)) - 1) ⟨hb2.len.1, hb2.len.2.1⟩
                  refine G_iinc (lv' := [(7, vI (k2 + 1)), (8, vI k2), (0, .ref a), (1, .ref p), (2, vI most), (3, vI (b2i tu)), (4, .ref o), (5, vI ((stL b2.2 0).length : Int)), (6, vI (max 0 (((stL b2.2 0).length : Int) - most)))]) hC 8 rfl (by rw [hN]; decide) rfl d_Ma_writeParts_151 ?_
                  refine G_goto hC 88 (by decide) d_Ma_writeParts_154 ?_
                  refine G_lv [2, 3, 4, 5, 6, 7, 8, 0] rfl ?_
                  refine G_widen (k' := psi lim (addPB lim bb b2.2 (stG b2.2 (k2)) ((stG b2.2 (k2 + 1)) - 1)) - psi lim b) (n' := psi lim (addPB lim bb b2.2 (stG b2.2 (k2)) ((stG b2.2 (k2 + 1)) - 1)) - psi lim b) (by omega) (by omega) ?_
                  exact ih88 M_20 (k2 + 1) _ (by omega) ((hfr2.up (T := [t, t + 1]) (by simp)).tr' (T := [t, t + 1]) fr_24 (fun _ z => z) (by simp)) h_23 (by omega) hW (gr_tr hP hgr)
                · rw [if_pos (show max 0 (((stL b2.2 0).length : Int) - most) < k2 from by omega)] at hW
                  have hq1 := psi_addB (lim := lim) (b := bb) 46 hP.2
                  have hr1 := stG_rng b2.2 (k2)
                  have hr2 := stG_rng b2.2 (k2 + 1)
                  have hq2 := psi_addPB (lim := lim) (b := addB lim bb 46) b2.2 (stG b2.2 (k2)) (stG b2.2 (k2 + 1) - 1) hq1.2
                  have hq3 := wpL_gr (lim := lim) (xs := b2.2) (first := max 0 (((stL b2.2 0).length : Int) - most)) (tu := tu) _ (k2 + 1) _ (Nat.lt_succ_self _) hq2.2
                  rw [hW] at hq3
                  have hgr := gr_tr hq1 hq2
                  refine G_aload hC 5 rfl d_Ma_writeParts_120 ?_
                  refine G_bipush (j := 46) hC (by decide +kernel) d_Ma_writeParts_122 ?_
                  refine G_xV (rest := []) hC hR (c_By_add hb2 (by omega)) cv_Ma_36 hb2.obj (by decide) (by omega) (by omega) rfl rfl (Nat.le_of_ble_eq_true rfl) d_Ma_writeParts_124 (fun r_28 M_26 p_27 => ?_)
                  obtain ⟨rfl, h_29, fr_30⟩ := p_27
                  show G E M_26 (psi lim bb - psi lim b + (psi lim (addB lim bb 46) - psi lim bb)) (psi lim bb - psi lim b + (psi lim (addB lim bb 46) - psi lim bb)) [(8, vI k2), (0, .ref a), (1, .ref p), (2, vI most), (3, vI (b2i tu)), (4, .ref o), (5, vI ((stL b2.2 0).length : Int)), (6, vI (max 0 (((stL b2.2 0).length : Int) - most))), (7, vI k2)] [] 127
                  have g_31 := psi_addB (lim := lim) (b := bb) 46 ⟨hb2.len.1, hb2.len.2.1⟩
                  refine G_aload hC 5 rfl d_Ma_writeParts_127 ?_
                  refine G_aload_n hC 2 rfl rfl d_Ma_writeParts_129 ?_
                  refine G_aload_n hC 1 rfl rfl d_Ma_writeParts_130 ?_
                  have h_32 := fr_3.at hm1 (by decide)
                  have h_33 := hfr1.at h_32 (by decide)
                  have h_34 := hfr2.at h_33 (by simp only [List.mem_cons, List.not_mem_nil, or_false, not_or, not_false_eq_true]; try omega)
                  have h_35 := fr_30.at h_34 (by simp only [List.mem_cons, List.not_mem_nil, or_false, not_or, not_false_eq_true]; try omega)
                  refine G_get hC fl_Ma_15 h_35 rfl d_Ma_writeParts_131 ?_
                  refine G_iload hC 0 rfl d_Ma_writeParts_134 ?_
                  have h_36 := hfr2.at hm3 (by simp only [List.mem_cons, List.not_mem_nil, or_false, not_or, not_false_eq_true]; try omega)
                  have h_37 := fr_30.at h_36 (by simp only [List.mem_cons, List.not_mem_nil, or_false, not_or, not_false_eq_true]; try omega)
                  refine G_iald hC h_37 (by omega) (by omega) d_Ma_writeParts_136 ?_
                  refine G_top (b := stG b2.2 (k2)) (hG _ (by omega)) ?_
                  refine G_aload_n hC 1 rfl rfl d_Ma_writeParts_137 ?_
                  refine G_get hC fl_Ma_15 h_35 rfl d_Ma_writeParts_138 ?_
                  refine G_iload hC 0 rfl d_Ma_writeParts_141 ?_
                  refine G_iconst (i := 1) hC d_Ma_writeParts_143 ?_
                  refine G_iadd hC d_Ma_writeParts_144 ?_
                  refine G_iald hC h_37 (by omega) (by omega) d_Ma_writeParts_145 ?_
                  refine G_top (b := stG b2.2 (k2 + 1)) (hG _ (by omega)) ?_
                  refine G_iconst (i := 1) hC d_Ma_writeParts_146 ?_
                  refine G_isub hC d_Ma_writeParts_147 ?_
                  have h_38 := h_5.fr hfr2 (by simp only [List.mem_cons, List.not_mem_nil, or_false, not_or, not_false_eq_true]; try omega) (by simp only [List.mem_cons, List.not_mem_nil, or_false, not_or, not_false_eq_true]; try omega)
                  have h_39 := h_38.fr fr_30 (by simp only [List.mem_cons, List.not_mem_nil, or_false, not_or, not_false_eq_true]; try omega) (by simp only [List.mem_cons, List.not_mem_nil, or_false, not_or, not_false_eq_true]; try omega)
                  refine G_xV (rest := []) hC hR (c_By_addPart h_29 h_39 (by omega) (by omega) htt) cv_Ma_64 h_29.obj (by decide) (by omega) (by omega) rfl rfl (Nat.le_of_ble_eq_true rfl) d_Ma_writeParts_148 (fun r_42 M_40 p_41 => ?_)
                  obtain ⟨rfl, h_43, fr_44⟩ := p_41
                  show G E M_40 (psi lim bb - psi lim b + (psi lim (addB lim bb 46) - psi lim bb) + (psi lim (addPB lim (addB lim bb 46) b2.2 (stG b2.2 (k2)) ((stG b2.2 (k2 + 1)) - 1)) - psi lim (addB lim bb 46))) (psi lim bb - psi lim b + (psi lim (addB lim bb 46) - psi lim bb) + (psi lim (addPB lim (addB lim bb 46) b2.2 (stG b2.2 (k2)) ((stG b2.2 (k2 + 1)) - 1)) - psi lim (addB lim bb 46))) [(8, vI k2), (0, .ref a), (1, .ref p), (2, vI most), (3, vI (b2i tu)), (4, .ref o), (5, vI ((stL b2.2 0).length : Int)), (6, vI (max 0 (((stL b2.2 0).length : Int) - most))), (7, vI k2)] [] 151
                  have g_45 := psi_addPB (lim := lim) (b := (addB lim bb 46)) b2.2 (stG b2.2 (k2)) ((stG b2.2 (k2 + 1)) - 1) ⟨h_29.len.1, h_29.len.2.1⟩
                  refine G_iinc (lv' := [(7, vI (k2 + 1)), (8, vI k2), (0, .ref a), (1, .ref p), (2, vI most), (3, vI (b2i tu)), (4, .ref o), (5, vI ((stL b2.2 0).length : Int)), (6, vI (max 0 (((stL b2.2 0).length : Int) - most)))]) hC 8 rfl (by rw [hN]; decide) rfl d_Ma_writeParts_151 ?_
                  refine G_goto hC 88 (by decide) d_Ma_writeParts_154 ?_
                  refine G_lv [2, 3, 4, 5, 6, 7, 8, 0] rfl ?_
                  refine G_widen (k' := psi lim (addPB lim (addB lim bb 46) b2.2 (stG b2.2 (k2)) ((stG b2.2 (k2 + 1)) - 1)) - psi lim b) (n' := psi lim (addPB lim (addB lim bb 46) b2.2 (stG b2.2 (k2)) ((stG b2.2 (k2 + 1)) - 1)) - psi lim b) (by omega) (by omega) ?_
                  exact ih88 M_40 (k2 + 1) _ (by omega) (((hfr2.up (T := [t, t + 1]) (by simp)).tr' (T := [t, t + 1]) fr_30 (fun _ z => z) (by simp)).tr' (T := [t, t + 1]) fr_44 (fun _ z => z) (by simp)) h_43 (by omega) hW (gr_tr hP hgr)
              · have c_13 := b2i_ne0.mp c_13
                rw [if_pos (show tu = true from c_13)] at hW
                refine G_iload hC 5 rfl d_Ma_writeParts_99 ?_
                refine G_iconst (i := 1) hC d_Ma_writeParts_101 ?_
                refine G_isub hC d_Ma_writeParts_102 ?_
                refine G_iload hC 7 rfl d_Ma_writeParts_103 ?_
                refine G_isub hC d_Ma_writeParts_105 ?_
                refine G_goto hC 111 (by decide) d_Ma_writeParts_106 ?_
                refine G_istore (lv' := [(8, vI ((((stL b2.2 0).length : Int) - 1) - k2)), (0, .ref a), (1, .ref p), (2, vI most), (3, vI (b2i tu)), (4, .ref o), (5, vI ((stL b2.2 0).length : Int)), (6, vI (max 0 (((stL b2.2 0).length : Int) - most))), (7, vI k2)]) hC (by rw [hN]; decide) rfl d_Ma_writeParts_111 ?_
                refine G_iload hC 8 rfl d_Ma_writeParts_113 ?_
                refine G_iload hC 7 rfl d_Ma_writeParts_115 ?_
                refine G_icmp_le hC 127 (by omega) (by omega) (by decide) d_Ma_writeParts_117 (fun c_46 => ?_) (fun c_46 => ?_)
                · rw [if_neg (show ¬ max 0 (((stL b2.2 0).length : Int) - most) < k2 from by omega)] at hW
                  have hq1 := gr_rf (lim := lim) (b := bb) hP.2
                  have hr1 := stG_rng b2.2 ((((stL b2.2 0).length : Int) - 1) - k2)
                  have hr2 := stG_rng b2.2 ((((stL b2.2 0).length : Int) - 1) - k2 + 1)
                  have hq2 := psi_addPB (lim := lim) (b := bb) b2.2 (stG b2.2 ((((stL b2.2 0).length : Int) - 1) - k2)) (stG b2.2 ((((stL b2.2 0).length : Int) - 1) - k2 + 1) - 1) hq1.2
                  have hq3 := wpL_gr (lim := lim) (xs := b2.2) (first := max 0 (((stL b2.2 0).length : Int) - most)) (tu := tu) _ (k2 + 1) _ (Nat.lt_succ_self _) hq2.2
                  rw [hW] at hq3
                  have hgr := gr_tr hq1 hq2
                  refine G_aload hC 5 rfl d_Ma_writeParts_127 ?_
                  refine G_aload_n hC 2 rfl rfl d_Ma_writeParts_129 ?_
                  refine G_aload_n hC 1 rfl rfl d_Ma_writeParts_130 ?_
                  have h_47 := fr_3.at hm1 (by decide)
                  have h_48 := hfr1.at h_47 (by decide)
                  have h_49 := hfr2.at h_48 (by simp only [List.mem_cons, List.not_mem_nil, or_false, not_or, not_false_eq_true]; try omega)
                  refine G_get hC fl_Ma_15 h_49 rfl d_Ma_writeParts_131 ?_
                  refine G_iload hC 0 rfl d_Ma_writeParts_134 ?_
                  have h_50 := hfr2.at hm3 (by simp only [List.mem_cons, List.not_mem_nil, or_false, not_or, not_false_eq_true]; try omega)
                  refine G_iald hC h_50 (by omega) (by omega) d_Ma_writeParts_136 ?_
                  refine G_top (b := stG b2.2 ((((stL b2.2 0).length : Int) - 1) - k2)) (hG _ (by omega)) ?_
                  refine G_aload_n hC 1 rfl rfl d_Ma_writeParts_137 ?_
                  refine G_get hC fl_Ma_15 h_49 rfl d_Ma_writeParts_138 ?_
                  refine G_iload hC 0 rfl d_Ma_writeParts_141 ?_
                  refine G_iconst (i := 1) hC d_Ma_writeParts_143 ?_
                  refine G_iadd hC d_Ma_writeParts_144 ?_
                  refine G_iald hC h_50 (by omega) (by omega) d_Ma_writeParts_145 ?_
                  refine G_top (b := stG b2.2 ((((stL b2.2 0).length : Int) - 1) - k2 + 1)) (hG _ (by omega)) ?_
                  refine G_iconst (i := 1) hC d_Ma_writeParts_146 ?_
                  refine G_isub hC d_Ma_writeParts_147 ?_
                  have h_51 := h_5.fr hfr2 (by simp only [List.mem_cons, List.not_mem_nil, or_false, not_or, not_false_eq_true]; try omega) (by simp only [List.mem_cons, List.not_mem_nil, or_false, not_or, not_false_eq_true]; try omega)
                  refine G_xV (rest := []) hC hR (c_By_addPart hb2 h_51 (by omega) (by omega) htt) cv_Ma_64 hb2.obj (by decide) (by omega) (by omega) rfl rfl (Nat.le_of_ble_eq_true rfl) d_Ma_writeParts_148 (fun r_54 M_52 p_53 => ?_)
                  obtain ⟨rfl, h_55, fr_56⟩ := p_53
                  show G E M_52 (psi lim bb - psi lim b + (psi lim (addPB lim bb b2.2 (stG b2.2 ((((stL b2.2 0).length : Int) - 1) - k2)) ((stG b2.2 ((((stL b2.2 0).length : Int) - 1) - k2 + 1)) - 1)) - psi lim bb)) (psi lim bb - psi lim b + (psi lim (addPB lim bb b2.2 (stG b2.2 ((((stL b2.2 0).length : Int) - 1) - k2)) ((stG b2.2 ((((stL b2.2 0).length : Int) - 1) - k2 + 1)) - 1)) - psi lim bb)) [(8, vI ((((stL b2.2 0).length : Int) - 1) - k2)), (0, .ref a), (1, .ref p), (2, vI most), (3, vI (b2i tu)), (4, .ref o), (5, vI ((stL b2.2 0).length : Int)), (6, vI (max 0 (((stL b2.2 0).length : Int) - most))), (7, vI k2)] [] 151
                  have g_57 := psi_addPB (lim := lim) (b := bb) b2.2 (stG b2.2 ((((stL b2.2 0).length : Int) - 1) - k2)) ((stG b2.2 ((((stL b2.2 0).length : Int) - 1) - k2 + 1)) - 1) ⟨hb2.len.1, hb2.len.2.1⟩
                  refine G_iinc (lv' := [(7, vI (k2 + 1)), (8, vI ((((stL b2.2 0).length : Int) - 1) - k2)), (0, .ref a), (1, .ref p), (2, vI most), (3, vI (b2i tu)), (4, .ref o), (5, vI ((stL b2.2 0).length : Int)), (6, vI (max 0 (((stL b2.2 0).length : Int) - most)))]) hC 8 rfl (by rw [hN]; decide) rfl d_Ma_writeParts_151 ?_
                  refine G_goto hC 88 (by decide) d_Ma_writeParts_154 ?_
                  refine G_lv [2, 3, 4, 5, 6, 7, 8, 0] rfl ?_
                  refine G_widen (k' := psi lim (addPB lim bb b2.2 (stG b2.2 ((((stL b2.2 0).length : Int) - 1) - k2)) ((stG b2.2 ((((stL b2.2 0).length : Int) - 1) - k2 + 1)) - 1)) - psi lim b) (n' := psi lim (addPB lim bb b2.2 (stG b2.2 ((((stL b2.2 0).length : Int) - 1) - k2)) ((stG b2.2 ((((stL b2.2 0).length : Int) - 1) - k2 + 1)) - 1)) - psi lim b) (by omega) (by omega) ?_
                  exact ih88 M_52 (k2 + 1) _ (by omega) ((hfr2.up (T := [t, t + 1]) (by simp)).tr' (T := [t, t + 1]) fr_56 (fun _ z => z) (by simp)) h_55 (by omega) hW (gr_tr hP hgr)
                · rw [if_pos (show max 0 (((stL b2.2 0).length : Int) - most) < k2 from by omega)] at hW
                  have hq1 := psi_addB (lim := lim) (b := bb) 46 hP.2
                  have hr1 := stG_rng b2.2 ((((stL b2.2 0).length : Int) - 1) - k2)
                  have hr2 := stG_rng b2.2 ((((stL b2.2 0).length : Int) - 1) - k2 + 1)
                  have hq2 := psi_addPB (lim := lim) (b := addB lim bb 46) b2.2 (stG b2.2 ((((stL b2.2 0).length : Int) - 1) - k2)) (stG b2.2 ((((stL b2.2 0).length : Int) - 1) - k2 + 1) - 1) hq1.2
                  have hq3 := wpL_gr (lim := lim) (xs := b2.2) (first := max 0 (((stL b2.2 0).length : Int) - most)) (tu := tu) _ (k2 + 1) _ (Nat.lt_succ_self _) hq2.2
                  rw [hW] at hq3
                  have hgr := gr_tr hq1 hq2
                  refine G_aload hC 5 rfl d_Ma_writeParts_120 ?_
                  refine G_bipush (j := 46) hC (by decide +kernel) d_Ma_writeParts_122 ?_
                  refine G_xV (rest := []) hC hR (c_By_add hb2 (by omega)) cv_Ma_36 hb2.obj (by decide) (by omega) (by omega) rfl rfl (Nat.le_of_ble_eq_true rfl) d_Ma_writeParts_124 (fun r_60 M_58 p_59 => ?_)
                  obtain ⟨rfl, h_61, fr_62⟩ := p_59
                  show G E M_58 (psi lim bb - psi lim b + (psi lim (addB lim bb 46) - psi lim bb)) (psi lim bb - psi lim b + (psi lim (addB lim bb 46) - psi lim bb)) [(8, vI ((((stL b2.2 0).length : Int) - 1) - k2)), (0, .ref a), (1, .ref p), (2, vI most), (3, vI (b2i tu)), (4, .ref o), (5, vI ((stL b2.2 0).length : Int)), (6, vI (max 0 (((stL b2.2 0).length : Int) - most))), (7, vI k2)] [] 127
                  have g_63 := psi_addB (lim := lim) (b := bb) 46 ⟨hb2.len.1, hb2.len.2.1⟩
                  refine G_aload hC 5 rfl d_Ma_writeParts_127 ?_
                  refine G_aload_n hC 2 rfl rfl d_Ma_writeParts_129 ?_
                  refine G_aload_n hC 1 rfl rfl d_Ma_writeParts_130 ?_
                  have h_64 := fr_3.at hm1 (by decide)
                  have h_65 := hfr1.at h_64 (by decide)
                  have h_66 := hfr2.at h_65 (by simp only [List.mem_cons, List.not_mem_nil, or_false, not_or, not_false_eq_true]; try omega)
                  have h_67 := fr_62.at h_66 (by simp only [List.mem_cons, List.not_mem_nil, or_false, not_or, not_false_eq_true]; try omega)
                  refine G_get hC fl_Ma_15 h_67 rfl d_Ma_writeParts_131 ?_
                  refine G_iload hC 0 rfl d_Ma_writeParts_134 ?_
                  have h_68 := hfr2.at hm3 (by simp only [List.mem_cons, List.not_mem_nil, or_false, not_or, not_false_eq_true]; try omega)
                  have h_69 := fr_62.at h_68 (by simp only [List.mem_cons, List.not_mem_nil, or_false, not_or, not_false_eq_true]; try omega)
                  refine G_iald hC h_69 (by omega) (by omega) d_Ma_writeParts_136 ?_
                  refine G_top (b := stG b2.2 ((((stL b2.2 0).length : Int) - 1) - k2)) (hG _ (by omega)) ?_
                  refine G_aload_n hC 1 rfl rfl d_Ma_writeParts_137 ?_
                  refine G_get hC fl_Ma_15 h_67 rfl d_Ma_writeParts_138 ?_
                  refine G_iload hC 0 rfl d_Ma_writeParts_141 ?_
                  refine G_iconst (i := 1) hC d_Ma_writeParts_143 ?_
                  refine G_iadd hC d_Ma_writeParts_144 ?_
                  refine G_iald hC h_69 (by omega) (by omega) d_Ma_writeParts_145 ?_
                  refine G_top (b := stG b2.2 ((((stL b2.2 0).length : Int) - 1) - k2 + 1)) (hG _ (by omega)) ?_
                  refine G_iconst (i := 1) hC d_Ma_writeParts_146 ?_
                  refine G_isub hC d_Ma_writeParts_147 ?_
                  have h_70 := h_5.fr hfr2 (by simp only [List.mem_cons, List.not_mem_nil, or_false, not_or, not_false_eq_true]; try omega) (by simp only [List.mem_cons, List.not_mem_nil, or_false, not_or, not_false_eq_true]; try omega)
                  have h_71 := h_70.fr fr_62 (by simp only [List.mem_cons, List.not_mem_nil, or_false, not_or, not_false_eq_true]; try omega) (by simp only [List.mem_cons, List.not_mem_nil, or_false, not_or, not_false_eq_true]; try omega)
                  refine G_xV (rest := []) hC hR (c_By_addPart h_61 h_71 (by omega) (by omega) htt) cv_Ma_64 h_61.obj (by decide) (by omega) (by omega) rfl rfl (Nat.le_of_ble_eq_true rfl) d_Ma_writeParts_148 (fun r_74 M_72 p_73 => ?_)
                  obtain ⟨rfl, h_75, fr_76⟩ := p_73
                  show G E M_72 (psi lim bb - psi lim b + (psi lim (addB lim bb 46) - psi lim bb) + (psi lim (addPB lim (addB lim bb 46) b2.2 (stG b2.2 ((((stL b2.2 0).length : Int) - 1) - k2)) ((stG b2.2 ((((stL b2.2 0).length : Int) - 1) - k2 + 1)) - 1)) - psi lim (addB lim bb 46))) (psi lim bb - psi lim b + (psi lim (addB lim bb 46) - psi lim bb) + (psi lim (addPB lim (addB lim bb 46) b2.2 (stG b2.2 ((((stL b2.2 0).length : Int) - 1) - k2)) ((stG b2.2 ((((stL b2.2 0).length : Int) - 1) - k2 + 1)) - 1)) - psi lim (addB lim bb 46))) [(8, vI ((((stL b2.2 0).length : Int) - 1) - k2)), (0, .ref a), (1, .ref p), (2, vI most), (3, vI (b2i tu)), (4, .ref o), (5, vI ((stL b2.2 0).length : Int)), (6, vI (max 0 (((stL b2.2 0).length : Int) - most))), (7, vI k2)] [] 151
                  have g_77 := psi_addPB (lim := lim) (b := (addB lim bb 46)) b2.2 (stG b2.2 ((((stL b2.2 0).length : Int) - 1) - k2)) ((stG b2.2 ((((stL b2.2 0).length : Int) - 1) - k2 + 1)) - 1) ⟨h_61.len.1, h_61.len.2.1⟩
                  refine G_iinc (lv' := [(7, vI (k2 + 1)), (8, vI ((((stL b2.2 0).length : Int) - 1) - k2)), (0, .ref a), (1, .ref p), (2, vI most), (3, vI (b2i tu)), (4, .ref o), (5, vI ((stL b2.2 0).length : Int)), (6, vI (max 0 (((stL b2.2 0).length : Int) - most)))]) hC 8 rfl (by rw [hN]; decide) rfl d_Ma_writeParts_151 ?_
                  refine G_goto hC 88 (by decide) d_Ma_writeParts_154 ?_
                  refine G_lv [2, 3, 4, 5, 6, 7, 8, 0] rfl ?_
                  refine G_widen (k' := psi lim (addPB lim (addB lim bb 46) b2.2 (stG b2.2 ((((stL b2.2 0).length : Int) - 1) - k2)) ((stG b2.2 ((((stL b2.2 0).length : Int) - 1) - k2 + 1)) - 1)) - psi lim b) (n' := psi lim (addPB lim (addB lim bb 46) b2.2 (stG b2.2 ((((stL b2.2 0).length : Int) - 1) - k2)) ((stG b2.2 ((((stL b2.2 0).length : Int) - 1) - k2 + 1)) - 1)) - psi lim b) (by omega) (by omega) ?_
                  exact ih88 M_72 (k2 + 1) _ (by omega) (((hfr2.up (T := [t, t + 1]) (by simp)).tr' (T := [t, t + 1]) fr_62 (fun _ z => z) (by simp)).tr' (T := [t, t + 1]) fr_76 (fun _ z => z) (by simp)) h_75 (by omega) hW (gr_tr hP hgr)
        refine G_lv [2, 3, 4, 5, 6, 7, 1, 0] rfl ?_
        have h_78 := h_B_o.fr fr_3 (by simp only [List.mem_cons, List.not_mem_nil, or_false, not_or, not_false_eq_true]; try omega) (by simp only [List.mem_cons, List.not_mem_nil, or_false, not_or, not_false_eq_true]; try omega)
        have h_79 := h_78.fr hfr1 (by simp only [List.mem_cons, List.not_mem_nil, or_false, not_or, not_false_eq_true]; try omega) (by simp only [List.mem_cons, List.not_mem_nil, or_false, not_or, not_false_eq_true]; try omega)
        refine G_widen (k' := psi lim b - psi lim b) (n' := psi lim b - psi lim b) (by omega) (by omega) ?_
        exact L88 _ M1 (max 0 (((stL b2.2 0).length : Int) - most)) _ (Nat.lt_succ_self _) Fr.rf h_79 (by omega) hr (gr_rf ⟨by omega, by omega⟩)
      · have hs1 := stL_pos (xs := b2.2) (k := k) (by omega)
        refine G_iload hC 5 rfl d_Ma_writeParts_22 ?_
        refine G_iconst (i := 1) hC d_Ma_writeParts_24 ?_
        refine G_iadd hC d_Ma_writeParts_25 ?_
        refine G_aload_n hC 0 rfl rfl d_Ma_writeParts_26 ?_
        have h_80 := fr_3.at hm1 (by decide)
        have h_81 := hfr1.at h_80 (by decide)
        refine G_get hC fl_Ma_15 h_81 rfl d_Ma_writeParts_27 ?_
        refine G_alen (q := 1) hC hm3 rfl d_Ma_writeParts_30 ?_
        refine G_icmp_ge hC 74 (by omega) (by omega) (by decide) d_Ma_writeParts_31 (fun c_82 => ?_) (fun c_82 => ?_)
        · exact (show False from by omega).elim
        · refine G_iload hC 6 rfl d_Ma_writeParts_34 ?_
          refine G_aload_n hC 1 rfl rfl d_Ma_writeParts_36 ?_
          refine G_pV (rest := [vI k]) hC hR (c_By_size h_5) cv_Ma_50 h_5.obj (by decide) (by omega) (by omega) rfl rfl (Nat.le_of_ble_eq_true rfl) d_Ma_writeParts_37 ?_
          have g_83 := h_5.len
          refine G_icmp_eq hC 54 (by omega) (by omega) (by decide) d_Ma_writeParts_40 (fun c_84 => ?_) (fun c_84 => ?_)
          · refine G_iinc (lv' := [(5, vI (parts + 1)), (0, .ref a), (1, .ref p), (2, vI most), (3, vI (b2i tu)), (4, .ref o), (6, vI k)]) hC 5 rfl (by rw [hN]; decide) rfl d_Ma_writeParts_54 ?_
            refine G_aload_n hC 1 rfl rfl d_Ma_writeParts_57 ?_
            refine G_get hC fl_Ma_15 h_81 rfl d_Ma_writeParts_58 ?_
            refine G_iload hC 0 rfl d_Ma_writeParts_61 ?_
            refine G_iload hC 6 rfl d_Ma_writeParts_63 ?_
            refine G_iconst (i := 1) hC d_Ma_writeParts_65 ?_
            refine G_iadd hC d_Ma_writeParts_66 ?_
            refine G_iastX hC hm3 (by omega) (by omega) d_Ma_writeParts_67 (fun M_85 h_86 fr_87 => ?_)
            refine G_iinc (lv' := [(6, vI (k + 1)), (5, vI (parts + 1)), (0, .ref a), (1, .ref p), (2, vI most), (3, vI (b2i tu)), (4, .ref o)]) hC 6 rfl (by rw [hN]; decide) rfl d_Ma_writeParts_68 ?_
            refine G_goto hC 13 (by decide) d_Ma_writeParts_71 ?_
            refine G_lv [2, 3, 4, 5, 6, 1, 0] rfl ?_
            exact ih13 M_85 (parts + 1) (k + 1) _ (by omega) ((hfr1.up (T := [18]) (by simp)).tr' (T := [18]) fr_87 (fun _ z => z) (by simp)) h_86 (by omega) (by rw [stL_yes (k := k) (by omega) (by omega), List.length_cons] at hA; omega) (by rw [stL_yes (k := k) (by omega) (by omega)] at hBd; rw [show (parts + 1).toNat = parts.toNat + 1 by omega]; exact drop_next hBd) (by rw [stL_yes (k := k) (by omega) (by omega)] at hBd; exact starts_step hG hBd (by omega))
          · refine G_aload_n hC 1 rfl rfl d_Ma_writeParts_43 ?_
            refine G_iload hC 6 rfl d_Ma_writeParts_44 ?_
            refine G_pV (rest := []) hC hR (c_By_at h_5 (by omega)) cv_Ma_19 h_5.obj (by decide) (by omega) (by omega) rfl rfl (Nat.le_of_ble_eq_true rfl) d_Ma_writeParts_46 ?_
            have g_88 := h_5.at_rng k
            refine G_bipush (j := 46) hC (by decide +kernel) d_Ma_writeParts_49 ?_
            refine G_icmp_ne hC 68 (by omega) (by decide) (by decide) d_Ma_writeParts_51 (fun c_89 => ?_) (fun c_89 => ?_)
            · refine G_iinc (lv' := [(6, vI (k + 1)), (0, .ref a), (1, .ref p), (2, vI most), (3, vI (b2i tu)), (4, .ref o), (5, vI parts)]) hC 6 rfl (by rw [hN]; decide) rfl d_Ma_writeParts_68 ?_
              refine G_goto hC 13 (by decide) d_Ma_writeParts_71 ?_
              refine G_lv [1, 2, 3, 4, 5, 6, 0] rfl ?_
              exact ih13 M1 parts (k + 1) _ (by omega) (hfr1.up (T := [18]) (by simp)) hm3 (by omega) (by rw [stL_no (k := k) (by omega) (by omega)] at hA; exact hA) (by rw [stL_no (k := k) (by omega) (by omega)] at hBd; exact hBd) hG
            · refine G_iinc (lv' := [(5, vI (parts + 1)), (0, .ref a), (1, .ref p), (2, vI most), (3, vI (b2i tu)), (4, .ref o), (6, vI k)]) hC 5 rfl (by rw [hN]; decide) rfl d_Ma_writeParts_54 ?_
              refine G_aload_n hC 1 rfl rfl d_Ma_writeParts_57 ?_
              refine G_get hC fl_Ma_15 h_81 rfl d_Ma_writeParts_58 ?_
              refine G_iload hC 0 rfl d_Ma_writeParts_61 ?_
              refine G_iload hC 6 rfl d_Ma_writeParts_63 ?_
              refine G_iconst (i := 1) hC d_Ma_writeParts_65 ?_
              refine G_iadd hC d_Ma_writeParts_66 ?_
              refine G_iastX hC hm3 (by omega) (by omega) d_Ma_writeParts_67 (fun M_90 h_91 fr_92 => ?_)
              refine G_iinc (lv' := [(6, vI (k + 1)), (5, vI (parts + 1)), (0, .ref a), (1, .ref p), (2, vI most), (3, vI (b2i tu)), (4, .ref o)]) hC 6 rfl (by rw [hN]; decide) rfl d_Ma_writeParts_68 ?_
              refine G_goto hC 13 (by decide) d_Ma_writeParts_71 ?_
              refine G_lv [2, 3, 4, 5, 6, 1, 0] rfl ?_
              exact ih13 M_90 (parts + 1) (k + 1) _ (by omega) ((hfr1.up (T := [18]) (by simp)).tr' (T := [18]) fr_92 (fun _ z => z) (by simp)) h_91 (by omega) (by rw [stL_yes (k := k) (by omega) (by omega), List.length_cons] at hA; omega) (by rw [stL_yes (k := k) (by omega) (by omega)] at hBd; rw [show (parts + 1).toNat = parts.toNat + 1 by omega]; exact drop_next hBd) (by rw [stL_yes (k := k) (by omega) (by omega)] at hBd; exact starts_step hG hBd (by omega))
  refine G_lv [2, 3, 4, 5, 6, 1, 0] rfl ?_
  exact L13 _ M_1 0 0 _ (Nat.lt_succ_self _) Fr.rf h_2 (by omega) (by omega) rfl (starts_0 g0 _)
end
section
/-! MORE FACTS -/
theorem IsSe.snd {D : Dg} {M : Mp} {a : Nat} {s : Snd} (h : IsSe D M a (some s)) : sndP s := by
  obtain ⟨m, l, d, e, bm, bl, bd, be, ad, h1, h2, h3, h4, h5, h6, h7, h8⟩ := h
  exact (h8 s rfl).1
end
section
set_option maxHeartbeats 4000000 in
set_option maxRecDepth 100000 in
theorem c_Ma_write {l : Launch} {D : Dg} {b0 : Nat} {M : Mp} {a : Nat} {p : Nat} {fr : Int} {to : Int} {ck : Nat} {o : Nat} {se : Nat} {tr : Nat} {lr : Int} {br : Bv} {tc : Nat} {lc : Int} {bc : Bv} {t : Nat} {lim : Int} {b : Bv} {sd : Snd} {W : Bv} (h_Ma_a : IsMa D M a se) (h_Se_se : IsSe D M se (some sd)) (h_B_p : IsB D M p tr lr br) (h_B_ck : IsB D M ck tc lc bc) (h_B_o : IsB D M o t lim b) (hfr : 0 ≤ fr ∧ fr ≤ 20000 ∧ 0 ≤ to ∧ to ≤ br.2.length) (hck : bc.2.length ≤ 91) (htr : (tr + 1 < t ∨ t + 1 < tr) ∧ (tr + 1 < 17 ∨ 18 < tr)) (htc : (tc + 1 < t ∨ t + 1 < tc) ∧ (tc + 1 < 17 ∨ 18 < tc)) (hts : t + 1 < 8 ∨ 18 < t) (hr : wrL lim sd bc.2 br.2 to fr b = W) : Ok l D b0 6 y_Ma_write b_Ma_write 12 none M [.ref a, .ref p, vI fr, vI to, .ref ck, .ref o] (psi lim W - psi lim b) (psi lim W - psi lim b) (fun r M' => r = none ∧ IsB D M' o t lim W ∧ IsMa D M' a se ∧ Fr [t, t + 1, 18] M M') := by
  refine Ok_of rfl (Nat.le_of_ble_eq_true rfl) (fun E hC hQ hl hD hB hN hR => ?_)
  subst hl hD hB
  have hB9 := h_B_o.len
  have hR9 := h_B_p.len
  have hC9 := h_B_ck.len
  have hsn := h_Se_se.snd
  have hW0 := wrL_gr (lim := lim) (s := sd) (chk := bc.2) (xs := br.2) (to := to) _ fr b (Nat.lt_succ_self _) ⟨by omega, by omega⟩
  rw [hr] at hW0
  show G E M 0 0 [(0, .ref a), (1, .ref p), (2, vI fr), (3, vI to), (4, .ref ck), (5, .ref o)] [] 0
  refine G_iload_n hC 2 rfl rfl d_Ma_write_0 ?_
  refine G_istore (lv' := [(6, vI fr), (0, .ref a), (1, .ref p), (2, vI fr), (3, vI to), (4, .ref ck), (5, .ref o)]) hC (by rw [hN]; decide) rfl d_Ma_write_1 ?_
  have L3 : ∀ (N : Nat) (M1 : Mp) (k : Int) (bb : Bv), (to - k).toNat < N → (Fr [t, t + 1, 18] M M1) → (IsB (eD E) M1 o t lim bb) → (IsMa (eD E) M1 a se) → (fr ≤ k ∧ (k ≤ to ∨ k = fr)) → (wrL lim sd bc.2 br.2 to k bb = W) → (grP lim b bb) → G E M1 (psi lim bb - psi lim b) (psi lim bb - psi lim b) [(0, .ref a), (1, .ref p), (2, vI fr), (3, vI to), (4, .ref ck), (5, .ref o), (6, vI k)] [] 3 := by
    intro N
    induction N with
    | zero => intro M1 k bb hN3 hfr1 hb1 hma hk hW hP; exact absurd hN3 (Nat.not_lt_zero _)
    | succ N ih3 =>
      intro M1 k bb hN3 hfr1 hb1 hma hk hW hP
      have hb1l := hb1.len
      have hWb := wrL_gr (lim := lim) (s := sd) (chk := bc.2) (xs := br.2) (to := to) _ k bb (Nat.lt_succ_self _) hP.2
      rw [hW] at hWb
      refine G_iload hC 6 rfl d_Ma_write_3 ?_
      refine G_iload_n hC 3 rfl rfl d_Ma_write_5 ?_
      refine G_icmp_ge hC 183 (by omega) (by omega) (by decide) d_Ma_write_6 (fun c_1 => ?_) (fun c_1 => ?_)
      · rw [wrL, dif_neg (show ¬ k < to by omega)] at hW
        have hpw : psi lim bb = psi lim W := by rw [hW]
        exact G_return hC hQ (by omega) (by omega) d_Ma_write_183 ⟨rfl, by rw [← hW]; exact hb1, hma, (hfr1.up (T := [t, t + 1, 18]) (by simp))⟩
      · refine G_aload_n hC 1 rfl rfl d_Ma_write_9 ?_
        refine G_iload hC 6 rfl d_Ma_write_10 ?_
        have h_2 := h_B_p.fr hfr1 (by simp only [List.mem_cons, List.not_mem_nil, or_false, not_or, not_false_eq_true]; try omega) (by simp only [List.mem_cons, List.not_mem_nil, or_false, not_or, not_false_eq_true]; try omega)
        refine G_pV (rest := []) hC hR (c_By_at h_2 (by omega)) cv_Ma_19 h_2.obj (by decide) (by omega) (by omega) rfl rfl (Nat.le_of_ble_eq_true rfl) d_Ma_write_12 ?_
        have g_3 := h_2.at_rng k
        refine G_istore (lv' := [(7, vI (atS br.2 k)), (0, .ref a), (1, .ref p), (2, vI fr), (3, vI to), (4, .ref ck), (5, .ref o), (6, vI k)]) hC (by rw [hN]; decide) rfl d_Ma_write_15 ?_
        refine G_iload hC 0 rfl d_Ma_write_17 ?_
        refine G_bipush (j := 37) hC (by decide +kernel) d_Ma_write_19 ?_
        refine G_icmp_ne hC 34 (by omega) (by decide) (by decide) d_Ma_write_21 (fun c_4 => ?_) (fun c_4 => ?_)
        · refine G_iconst (i := 0) hC d_Ma_write_34 ?_
          refine G_istore (lv' := [(8, vI 0), (7, vI (atS br.2 k)), (0, .ref a), (1, .ref p), (2, vI fr), (3, vI to), (4, .ref ck), (5, .ref o), (6, vI k)]) hC (by rw [hN]; decide) rfl d_Ma_write_35 ?_
          refine G_iload hC 0 rfl d_Ma_write_37 ?_
          refine G_if_ne hC 52 (by decide) (by decide) d_Ma_write_39 (fun c_5 => ?_) (fun c_5 => ?_)
          · exact (show False from by omega).elim
          · rw [wrL, dif_pos (show k < to by omega), dif_neg (show ¬ (atS br.2 k = 37 ∧ ¬ mlenS br.2 k to = 0) by omega)] at hW
            have hq1 := psi_addB (lim := lim) (b := bb) (atS br.2 k) hP.2
            have hq3 := wrL_gr (lim := lim) (s := sd) (chk := bc.2) (xs := br.2) (to := to) _ (k + 1) (addB lim bb (atS br.2 k)) (Nat.lt_succ_self _) hq1.2
            rw [hW] at hq3
            refine G_aload hC 7 rfl d_Ma_write_42 ?_
            refine G_iload hC 1 rfl d_Ma_write_44 ?_
            refine G_xV (rest := []) hC hR (c_By_add hb1 (by omega)) cv_Ma_36 hb1.obj (by decide) (by omega) (by omega) rfl rfl (Nat.le_of_ble_eq_true rfl) d_Ma_write_46 (fun r_8 M_6 p_7 => ?_)
            obtain ⟨rfl, h_9, fr_10⟩ := p_7
            show G E M_6 (psi lim bb - psi lim b + (psi lim (addB lim bb (atS br.2 k)) - psi lim bb)) (psi lim bb - psi lim b + (psi lim (addB lim bb (atS br.2 k)) - psi lim bb)) [(8, vI 0), (7, vI (atS br.2 k)), (0, .ref a), (1, .ref p), (2, vI fr), (3, vI to), (4, .ref ck), (5, .ref o), (6, vI k)] [] 49
            have g_11 := psi_addB (lim := lim) (b := bb) (atS br.2 k) ⟨hb1.len.1, hb1.len.2.1⟩
            refine G_goto hC 177 (by decide) d_Ma_write_49 ?_
            refine G_iinc (lv' := [(6, vI (k + 1)), (8, vI 0), (7, vI (atS br.2 k)), (0, .ref a), (1, .ref p), (2, vI fr), (3, vI to), (4, .ref ck), (5, .ref o)]) hC 8 rfl (by rw [hN]; decide) rfl d_Ma_write_177 ?_
            refine G_goto hC 3 (by decide) d_Ma_write_180 ?_
            refine G_lv [3, 4, 5, 6, 7, 8, 0] rfl ?_
            have h_12 := hma.fr fr_10 (by simp only [List.mem_cons, List.not_mem_nil, or_false, not_or, not_false_eq_true]; try omega) (by simp only [List.mem_cons, List.not_mem_nil, or_false, not_or, not_false_eq_true]; try omega)
            refine G_widen (k' := psi lim (addB lim bb (atS br.2 k)) - psi lim b) (n' := psi lim (addB lim bb (atS br.2 k)) - psi lim b) (by omega) (by omega) ?_
            exact ih3 M_6 (k + 1) _ (by omega) ((hfr1.up (T := [t, t + 1, 18]) (by simp)).tr' (T := [t, t + 1, 18]) fr_10 (fun _ z => z) (by simp)) h_9 h_12 (by omega) hW (gr_tr hP hq1)
        · refine G_aload_n hC 2 rfl rfl d_Ma_write_24 ?_
          refine G_iload hC 7 rfl d_Ma_write_25 ?_
          refine G_iload_n hC 4 rfl rfl d_Ma_write_27 ?_
          refine G_pS (rest := []) hC hR (c_Ma_macroLength h_2 (by omega) (by omega) rfl) cs_Ma_25 (by decide) (by omega) (by omega) rfl rfl (Nat.le_of_ble_eq_true rfl) d_Ma_write_28 ?_
          have g_13 := mlenS_rng br.2 k to
          refine G_goto hC 35 (by decide) d_Ma_write_31 ?_
          refine G_istore (lv' := [(8, vI (mlenS br.2 k to)), (7, vI (atS br.2 k)), (0, .ref a), (1, .ref p), (2, vI fr), (3, vI to), (4, .ref ck), (5, .ref o), (6, vI k)]) hC (by rw [hN]; decide) rfl d_Ma_write_35 ?_
          refine G_iload hC 0 rfl d_Ma_write_37 ?_
          refine G_if_ne hC 52 (by omega) (by decide) d_Ma_write_39 (fun c_14 => ?_) (fun c_14 => ?_)
          · refine G_iload hC 0 rfl d_Ma_write_52 ?_
            refine G_iconst (i := 2) hC d_Ma_write_54 ?_
            refine G_icmp_ne hC 77 (by omega) (by decide) (by decide) d_Ma_write_55 (fun c_15 => ?_) (fun c_15 => ?_)
            · rw [wrL, dif_pos (show k < to by omega), dif_pos (show atS br.2 k = 37 ∧ ¬ mlenS br.2 k to = 0 by omega), if_neg (show ¬ mlenS br.2 k to = 2 by omega)] at hW
              refine G_aload_n hC 3 rfl rfl d_Ma_write_77 ?_
              refine G_iload hC 8 rfl d_Ma_write_78 ?_
              refine G_iconst (i := 3) hC d_Ma_write_80 ?_
              refine G_iadd hC d_Ma_write_81 ?_
              refine G_pV (rest := []) hC hR (c_By_at h_2 (by omega)) cv_Ma_19 h_2.obj (by decide) (by omega) (by omega) rfl rfl (Nat.le_of_ble_eq_true rfl) d_Ma_write_82 ?_
              have g_16 := h_2.at_rng (k + 3)
              refine G_pS (rest := []) hC hR (c_Ma_isPartNumber (by omega)) cs_Ma_33 (by decide) (by omega) (by omega) rfl rfl (Nat.le_of_ble_eq_true rfl) d_Ma_write_85 ?_
              refine G_istore (lv' := [(9, vI (b2i (decide (pnP (atS br.2 (k + 3)))))), (8, vI (mlenS br.2 k to)), (7, vI (atS br.2 k)), (0, .ref a), (1, .ref p), (2, vI fr), (3, vI to), (4, .ref ck), (5, .ref o), (6, vI k)]) hC (by rw [hN]; decide) rfl d_Ma_write_88 ?_
              refine G_aload_n hC 4 rfl rfl d_Ma_write_90 ?_
              refine G_iload hC 9 rfl d_Ma_write_91 ?_
              refine G_iload hC 1 rfl d_Ma_write_93 ?_
              refine G_iadd hC d_Ma_write_95 ?_
              refine G_iconst (i := 2) hC d_Ma_write_96 ?_
              refine G_isub hC d_Ma_write_97 ?_
              refine G_pV (rest := []) hC hR (c_By_at h_2 (by omega)) cv_Ma_19 h_2.obj (by decide) (by omega) (by omega) rfl rfl (Nat.le_of_ble_eq_true rfl) d_Ma_write_98 ?_
              have g_17 := h_2.at_rng ((k + (mlenS br.2 k to)) - 2)
              refine G_bipush (j := 114) hC (by decide +kernel) d_Ma_write_101 ?_
              refine G_icmp_ne hC 110 (by omega) (by decide) (by decide) d_Ma_write_103 (fun c_18 => ?_) (fun c_18 => ?_)
              · refine G_iconst (i := 0) hC d_Ma_write_110 ?_
                refine G_istore (lv' := [(10, vI 0), (9, vI (b2i (decide (pnP (atS br.2 (k + 3)))))), (8, vI (mlenS br.2 k to)), (7, vI (atS br.2 k)), (0, .ref a), (1, .ref p), (2, vI fr), (3, vI to), (4, .ref ck), (5, .ref o), (6, vI k)]) hC (by rw [hN]; decide) rfl d_Ma_write_111 ?_
                obtain ⟨r9, g9, hm1, hm2⟩ := id hma
                refine G_aload_n hC 4 rfl rfl d_Ma_write_113 ?_
                refine G_get hC fl_Ma_9 hm1 rfl d_Ma_write_114 ?_
                refine G_aload_n hC 5 rfl rfl d_Ma_write_117 ?_
                refine G_iload hC 10 rfl d_Ma_write_118 ?_
                refine G_iconst (i := 2) hC d_Ma_write_120 ?_
                refine G_iadd hC d_Ma_write_121 ?_
                refine G_pV (rest := [.ref se]) hC hR (c_By_at h_2 (by omega)) cv_Ma_19 h_2.obj (by decide) (by omega) (by omega) rfl rfl (Nat.le_of_ble_eq_true rfl) d_Ma_write_122 ?_
                have g_19 := h_2.at_rng (k + 2)
                refine G_aload hC 8 rfl d_Ma_write_125 ?_
                have h_20 := h_Se_se.fr hfr1 (by intro u hu; simp only [List.mem_cons, List.not_mem_nil, or_false] at hu <;> omega)
                have h_21 := h_B_ck.fr hfr1 (by simp only [List.mem_cons, List.not_mem_nil, or_false, not_or, not_false_eq_true]; try omega) (by simp only [List.mem_cons, List.not_mem_nil, or_false, not_or, not_false_eq_true]; try omega)
                refine G_xV (rest := []) hC hR (c_Se_source h_20 h_21 (by omega)) cv_Ma_44 h_20.obj (by decide) (by omega) (by omega) rfl rfl (Nat.le_of_ble_eq_true rfl) d_Ma_write_127 (fun r_24 M_22 p_23 => ?_)
                obtain ⟨q_25, tq_26, lq_27, bq_28, rfl, h_29, h_30, rfl⟩ := p_23
                show G E M1 (psi lim bb - psi lim b + 0) (psi lim bb - psi lim b + 0) [(10, vI 0), (9, vI (b2i (decide (pnP (atS br.2 (k + 3)))))), (8, vI (mlenS br.2 k to)), (7, vI (atS br.2 k)), (0, .ref a), (1, .ref p), (2, vI fr), (3, vI to), (4, .ref ck), (5, .ref o), (6, vI k)] [.ref q_25] 130
                refine G_astore (lv' := [(11, .ref q_25), (10, vI 0), (9, vI (b2i (decide (pnP (atS br.2 (k + 3)))))), (8, vI (mlenS br.2 k to)), (7, vI (atS br.2 k)), (0, .ref a), (1, .ref p), (2, vI fr), (3, vI to), (4, .ref ck), (5, .ref o), (6, vI k)]) hC (by rw [hN]; decide) rfl d_Ma_write_130 ?_
                refine G_aload_n hC 5 rfl rfl d_Ma_write_132 ?_
                refine G_aload hC 0 rfl d_Ma_write_133 ?_
                refine G_iload hC 2 rfl d_Ma_write_135 ?_
                refine G_if_eq hC 154 (by have := b2i_rng (decide (pnP (atS br.2 (k + 3)))); omega) (by decide) d_Ma_write_137 (fun c_31 => ?_) (fun c_31 => ?_)
                · have c_31 := b2i_eq0.mp c_31
                  have c_31 := of_decide_eq_false c_31
                  refine G_aload hC 0 rfl d_Ma_write_154 ?_
                  refine G_pV (rest := [.ref q_25, .ref a]) hC hR (c_By_size h_29) cv_Ma_50 h_29.obj (by decide) (by omega) (by omega) rfl rfl (Nat.le_of_ble_eq_true rfl) d_Ma_write_156 ?_
                  have g_32 := h_29.len
                  refine G_iconst (i := 1) hC d_Ma_write_159 ?_
                  refine G_iadd hC d_Ma_write_160 ?_
                  refine G_iload hC 1 rfl d_Ma_write_161 ?_
                  refine G_aload hC 10 rfl d_Ma_write_163 ?_
                  have hsl := srcS_len (s := sd) (chk := bc.2) (c := atS br.2 (k + 2)) hsn hck
                  rw [← h_30.1] at hsl
                  have hwp : wpB lim bb bq_28.2 ((bq_28.2.length : Int) + 1) false = wpB lim bb (srcS sd bc.2 (atS br.2 (k + 2))) (mostS sd bc.2 br.2 k) (decide (atS br.2 (k + mlenS br.2 k to - 2) = 114)) := by rw [h_30.1]; unfold mostS; rw [if_neg c_31, decide_eq_false c_18]
                  rw [← hwp] at hW
                  have hq1 := wpB_gr (lim := lim) (b := bb) bq_28.2 ((bq_28.2.length : Int) + 1) false hP.2
                  have hpr := h_30.2
                  have hbl9 := h_29.len
                  have hq3 := wrL_gr (lim := lim) (s := sd) (chk := bc.2) (xs := br.2) (to := to) _ (k + mlenS br.2 k to) (wpB lim bb bq_28.2 ((bq_28.2.length : Int) + 1) false) (Nat.lt_succ_self _) hq1.2
                  rw [hW] at hq3
                  refine G_xV (rest := []) hC hR (c_Ma_writeParts (tu := false) hma h_29 hb1 (by omega) (by omega) (by omega) (by omega) rfl) cv_Ma_54 ⟨_, _, hm1⟩ (by decide) (by omega) (by omega) rfl rfl (Nat.le_of_ble_eq_true rfl) d_Ma_write_165 (fun r_35 M_33 p_34 => ?_)
                  obtain ⟨rfl, h_36, h_37, fr_38⟩ := p_34
                  show G E M_33 (psi lim bb - psi lim b + 0 + (psi lim (wpB lim bb bq_28.2 ((bq_28.2.length : Int) + 1) false) - psi lim bb)) (psi lim bb - psi lim b + 0 + (psi lim (wpB lim bb bq_28.2 ((bq_28.2.length : Int) + 1) false) - psi lim bb)) [(11, .ref q_25), (10, vI 0), (9, vI (b2i (decide (pnP (atS br.2 (k + 3)))))), (8, vI (mlenS br.2 k to)), (7, vI (atS br.2 k)), (0, .ref a), (1, .ref p), (2, vI fr), (3, vI to), (4, .ref ck), (5, .ref o), (6, vI k)] [] 168
                  have g_39 := wpB_gr (lim := lim) (b := bb) bq_28.2 ((bq_28.2.length : Int) + 1) false ⟨hb1.len.1, hb1.len.2.1⟩
                  refine G_iload hC 11 rfl d_Ma_write_168 ?_
                  refine G_iload hC 3 rfl d_Ma_write_170 ?_
                  refine G_iconst (i := 1) hC d_Ma_write_172 ?_
                  refine G_isub hC d_Ma_write_173 ?_
                  refine G_iadd hC d_Ma_write_174 ?_
                  refine G_istore (lv' := [(6, vI (k + ((mlenS br.2 k to) - 1))), (11, .ref q_25), (10, vI 0), (9, vI (b2i (decide (pnP (atS br.2 (k + 3)))))), (8, vI (mlenS br.2 k to)), (7, vI (atS br.2 k)), (0, .ref a), (1, .ref p), (2, vI fr), (3, vI to), (4, .ref ck), (5, .ref o)]) hC (by rw [hN]; decide) rfl d_Ma_write_175 ?_
                  refine G_iinc (lv' := [(6, vI ((k + ((mlenS br.2 k to) - 1)) + 1)), (11, .ref q_25), (10, vI 0), (9, vI (b2i (decide (pnP (atS br.2 (k + 3)))))), (8, vI (mlenS br.2 k to)), (7, vI (atS br.2 k)), (0, .ref a), (1, .ref p), (2, vI fr), (3, vI to), (4, .ref ck), (5, .ref o)]) hC 0 rfl (by rw [hN]; decide) rfl d_Ma_write_177 ?_
                  refine G_goto hC 3 (by decide) d_Ma_write_180 ?_
                  refine G_lv [6, 7, 8, 9, 10, 11, 0] rfl ?_
                  refine G_widen (k' := psi lim (wpB lim bb bq_28.2 ((bq_28.2.length : Int) + 1) false) - psi lim b) (n' := psi lim (wpB lim bb bq_28.2 ((bq_28.2.length : Int) + 1) false) - psi lim b) (by omega) (by omega) ?_
                  exact ih3 M_33 ((k + ((mlenS br.2 k to) - 1)) + 1) _ (by omega) ((hfr1.up (T := [t, t + 1, 18]) (by simp)).tr' (T := [t, t + 1, 18]) fr_38 (fun _ z => z) (by simp)) h_36 h_37 (by omega) (by rw [show (k + ((mlenS br.2 k to) - 1)) + 1 = k + mlenS br.2 k to by omega]; exact hW) (gr_tr hP hq1)
                · have c_31 := b2i_ne0.mp c_31
                  have c_31 := of_decide_eq_true c_31
                  refine G_aload_n hC 6 rfl rfl d_Ma_write_140 ?_
                  refine G_iload hC 11 rfl d_Ma_write_141 ?_
                  refine G_iconst (i := 3) hC d_Ma_write_143 ?_
                  refine G_iadd hC d_Ma_write_144 ?_
                  refine G_pV (rest := [.ref q_25, .ref a]) hC hR (c_By_at h_2 (by omega)) cv_Ma_19 h_2.obj (by decide) (by omega) (by omega) rfl rfl (Nat.le_of_ble_eq_true rfl) d_Ma_write_145 ?_
                  have g_40 := h_2.at_rng (k + 3)
                  refine G_bipush (j := 48) hC (by decide +kernel) d_Ma_write_148 ?_
                  refine G_isub hC d_Ma_write_150 ?_
                  refine G_goto hC 161 (by decide) d_Ma_write_151 ?_
                  refine G_iload hC 1 rfl d_Ma_write_161 ?_
                  refine G_aload hC 10 rfl d_Ma_write_163 ?_
                  have hsl := srcS_len (s := sd) (chk := bc.2) (c := atS br.2 (k + 2)) hsn hck
                  rw [← h_30.1] at hsl
                  have hwp : wpB lim bb bq_28.2 ((atS br.2 (k + 3)) - 48) false = wpB lim bb (srcS sd bc.2 (atS br.2 (k + 2))) (mostS sd bc.2 br.2 k) (decide (atS br.2 (k + mlenS br.2 k to - 2) = 114)) := by rw [h_30.1]; unfold mostS; rw [if_pos c_31, decide_eq_false c_18]
                  rw [← hwp] at hW
                  have hq1 := wpB_gr (lim := lim) (b := bb) bq_28.2 ((atS br.2 (k + 3)) - 48) false hP.2
                  have hpr := h_30.2
                  have hbl9 := h_29.len
                  have hq3 := wrL_gr (lim := lim) (s := sd) (chk := bc.2) (xs := br.2) (to := to) _ (k + mlenS br.2 k to) (wpB lim bb bq_28.2 ((atS br.2 (k + 3)) - 48) false) (Nat.lt_succ_self _) hq1.2
                  rw [hW] at hq3
                  refine G_xV (rest := []) hC hR (c_Ma_writeParts (tu := false) hma h_29 hb1 (by omega) (by omega) (by omega) (by omega) rfl) cv_Ma_54 ⟨_, _, hm1⟩ (by decide) (by omega) (by omega) rfl rfl (Nat.le_of_ble_eq_true rfl) d_Ma_write_165 (fun r_43 M_41 p_42 => ?_)
                  obtain ⟨rfl, h_44, h_45, fr_46⟩ := p_42
                  show G E M_41 (psi lim bb - psi lim b + 0 + (psi lim (wpB lim bb bq_28.2 ((atS br.2 (k + 3)) - 48) false) - psi lim bb)) (psi lim bb - psi lim b + 0 + (psi lim (wpB lim bb bq_28.2 ((atS br.2 (k + 3)) - 48) false) - psi lim bb)) [(11, .ref q_25), (10, vI 0), (9, vI (b2i (decide (pnP (atS br.2 (k + 3)))))), (8, vI (mlenS br.2 k to)), (7, vI (atS br.2 k)), (0, .ref a), (1, .ref p), (2, vI fr), (3, vI to), (4, .ref ck), (5, .ref o), (6, vI k)] [] 168
                  have g_47 := wpB_gr (lim := lim) (b := bb) bq_28.2 ((atS br.2 (k + 3)) - 48) false ⟨hb1.len.1, hb1.len.2.1⟩
                  refine G_iload hC 11 rfl d_Ma_write_168 ?_
                  refine G_iload hC 3 rfl d_Ma_write_170 ?_
                  refine G_iconst (i := 1) hC d_Ma_write_172 ?_
                  refine G_isub hC d_Ma_write_173 ?_
                  refine G_iadd hC d_Ma_write_174 ?_
                  refine G_istore (lv' := [(6, vI (k + ((mlenS br.2 k to) - 1))), (11, .ref q_25), (10, vI 0), (9, vI (b2i (decide (pnP (atS br.2 (k + 3)))))), (8, vI (mlenS br.2 k to)), (7, vI (atS br.2 k)), (0, .ref a), (1, .ref p), (2, vI fr), (3, vI to), (4, .ref ck), (5, .ref o)]) hC (by rw [hN]; decide) rfl d_Ma_write_175 ?_
                  refine G_iinc (lv' := [(6, vI ((k + ((mlenS br.2 k to) - 1)) + 1)), (11, .ref q_25), (10, vI 0), (9, vI (b2i (decide (pnP (atS br.2 (k + 3)))))), (8, vI (mlenS br.2 k to)), (7, vI (atS br.2 k)), (0, .ref a), (1, .ref p), (2, vI fr), (3, vI to), (4, .ref ck), (5, .ref o)]) hC 0 rfl (by rw [hN]; decide) rfl d_Ma_write_177 ?_
                  refine G_goto hC 3 (by decide) d_Ma_write_180 ?_
                  refine G_lv [6, 7, 8, 9, 10, 11, 0] rfl ?_
                  refine G_widen (k' := psi lim (wpB lim bb bq_28.2 ((atS br.2 (k + 3)) - 48) false) - psi lim b) (n' := psi lim (wpB lim bb bq_28.2 ((atS br.2 (k + 3)) - 48) false) - psi lim b) (by omega) (by omega) ?_
                  exact ih3 M_41 ((k + ((mlenS br.2 k to) - 1)) + 1) _ (by omega) ((hfr1.up (T := [t, t + 1, 18]) (by simp)).tr' (T := [t, t + 1, 18]) fr_46 (fun _ z => z) (by simp)) h_44 h_45 (by omega) (by rw [show (k + ((mlenS br.2 k to) - 1)) + 1 = k + mlenS br.2 k to by omega]; exact hW) (gr_tr hP hq1)
              · refine G_iconst (i := 1) hC d_Ma_write_106 ?_
                refine G_goto hC 111 (by decide) d_Ma_write_107 ?_
                refine G_istore (lv' := [(10, vI 1), (9, vI (b2i (decide (pnP (atS br.2 (k + 3)))))), (8, vI (mlenS br.2 k to)), (7, vI (atS br.2 k)), (0, .ref a), (1, .ref p), (2, vI fr), (3, vI to), (4, .ref ck), (5, .ref o), (6, vI k)]) hC (by rw [hN]; decide) rfl d_Ma_write_111 ?_
                obtain ⟨r9, g9, hm1, hm2⟩ := id hma
                refine G_aload_n hC 4 rfl rfl d_Ma_write_113 ?_
                refine G_get hC fl_Ma_9 hm1 rfl d_Ma_write_114 ?_
                refine G_aload_n hC 5 rfl rfl d_Ma_write_117 ?_
                refine G_iload hC 10 rfl d_Ma_write_118 ?_
                refine G_iconst (i := 2) hC d_Ma_write_120 ?_
                refine G_iadd hC d_Ma_write_121 ?_
                refine G_pV (rest := [.ref se]) hC hR (c_By_at h_2 (by omega)) cv_Ma_19 h_2.obj (by decide) (by omega) (by omega) rfl rfl (Nat.le_of_ble_eq_true rfl) d_Ma_write_122 ?_
                have g_48 := h_2.at_rng (k + 2)
                refine G_aload hC 8 rfl d_Ma_write_125 ?_
                have h_49 := h_Se_se.fr hfr1 (by intro u hu; simp only [List.mem_cons, List.not_mem_nil, or_false] at hu <;> omega)
                have h_50 := h_B_ck.fr hfr1 (by simp only [List.mem_cons, List.not_mem_nil, or_false, not_or, not_false_eq_true]; try omega) (by simp only [List.mem_cons, List.not_mem_nil, or_false, not_or, not_false_eq_true]; try omega)
                refine G_xV (rest := []) hC hR (c_Se_source h_49 h_50 (by omega)) cv_Ma_44 h_49.obj (by decide) (by omega) (by omega) rfl rfl (Nat.le_of_ble_eq_true rfl) d_Ma_write_127 (fun r_53 M_51 p_52 => ?_)
                obtain ⟨q_54, tq_55, lq_56, bq_57, rfl, h_58, h_59, rfl⟩ := p_52
                show G E M1 (psi lim bb - psi lim b + 0) (psi lim bb - psi lim b + 0) [(10, vI 1), (9, vI (b2i (decide (pnP (atS br.2 (k + 3)))))), (8, vI (mlenS br.2 k to)), (7, vI (atS br.2 k)), (0, .ref a), (1, .ref p), (2, vI fr), (3, vI to), (4, .ref ck), (5, .ref o), (6, vI k)] [.ref q_54] 130
                refine G_astore (lv' := [(11, .ref q_54), (10, vI 1), (9, vI (b2i (decide (pnP (atS br.2 (k + 3)))))), (8, vI (mlenS br.2 k to)), (7, vI (atS br.2 k)), (0, .ref a), (1, .ref p), (2, vI fr), (3, vI to), (4, .ref ck), (5, .ref o), (6, vI k)]) hC (by rw [hN]; decide) rfl d_Ma_write_130 ?_
                refine G_aload_n hC 5 rfl rfl d_Ma_write_132 ?_
                refine G_aload hC 0 rfl d_Ma_write_133 ?_
                refine G_iload hC 2 rfl d_Ma_write_135 ?_
                refine G_if_eq hC 154 (by have := b2i_rng (decide (pnP (atS br.2 (k + 3)))); omega) (by decide) d_Ma_write_137 (fun c_60 => ?_) (fun c_60 => ?_)
                · have c_60 := b2i_eq0.mp c_60
                  have c_60 := of_decide_eq_false c_60
                  refine G_aload hC 0 rfl d_Ma_write_154 ?_
                  refine G_pV (rest := [.ref q_54, .ref a]) hC hR (c_By_size h_58) cv_Ma_50 h_58.obj (by decide) (by omega) (by omega) rfl rfl (Nat.le_of_ble_eq_true rfl) d_Ma_write_156 ?_
                  have g_61 := h_58.len
                  refine G_iconst (i := 1) hC d_Ma_write_159 ?_
                  refine G_iadd hC d_Ma_write_160 ?_
                  refine G_iload hC 1 rfl d_Ma_write_161 ?_
                  refine G_aload hC 10 rfl d_Ma_write_163 ?_
                  have hsl := srcS_len (s := sd) (chk := bc.2) (c := atS br.2 (k + 2)) hsn hck
                  rw [← h_59.1] at hsl
                  have hwp : wpB lim bb bq_57.2 ((bq_57.2.length : Int) + 1) true = wpB lim bb (srcS sd bc.2 (atS br.2 (k + 2))) (mostS sd bc.2 br.2 k) (decide (atS br.2 (k + mlenS br.2 k to - 2) = 114)) := by rw [h_59.1]; unfold mostS; rw [if_neg c_60, decide_eq_true c_18]
                  rw [← hwp] at hW
                  have hq1 := wpB_gr (lim := lim) (b := bb) bq_57.2 ((bq_57.2.length : Int) + 1) true hP.2
                  have hpr := h_59.2
                  have hbl9 := h_58.len
                  have hq3 := wrL_gr (lim := lim) (s := sd) (chk := bc.2) (xs := br.2) (to := to) _ (k + mlenS br.2 k to) (wpB lim bb bq_57.2 ((bq_57.2.length : Int) + 1) true) (Nat.lt_succ_self _) hq1.2
                  rw [hW] at hq3
                  refine G_xV (rest := []) hC hR (c_Ma_writeParts (tu := true) hma h_58 hb1 (by omega) (by omega) (by omega) (by omega) rfl) cv_Ma_54 ⟨_, _, hm1⟩ (by decide) (by omega) (by omega) rfl rfl (Nat.le_of_ble_eq_true rfl) d_Ma_write_165 (fun r_64 M_62 p_63 => ?_)
                  obtain ⟨rfl, h_65, h_66, fr_67⟩ := p_63
                  show G E M_62 (psi lim bb - psi lim b + 0 + (psi lim (wpB lim bb bq_57.2 ((bq_57.2.length : Int) + 1) true) - psi lim bb)) (psi lim bb - psi lim b + 0 + (psi lim (wpB lim bb bq_57.2 ((bq_57.2.length : Int) + 1) true) - psi lim bb)) [(11, .ref q_54), (10, vI 1), (9, vI (b2i (decide (pnP (atS br.2 (k + 3)))))), (8, vI (mlenS br.2 k to)), (7, vI (atS br.2 k)), (0, .ref a), (1, .ref p), (2, vI fr), (3, vI to), (4, .ref ck), (5, .ref o), (6, vI k)] [] 168
                  have g_68 := wpB_gr (lim := lim) (b := bb) bq_57.2 ((bq_57.2.length : Int) + 1) true ⟨hb1.len.1, hb1.len.2.1⟩
                  refine G_iload hC 11 rfl d_Ma_write_168 ?_
                  refine G_iload hC 3 rfl d_Ma_write_170 ?_
                  refine G_iconst (i := 1) hC d_Ma_write_172 ?_
                  refine G_isub hC d_Ma_write_173 ?_
                  refine G_iadd hC d_Ma_write_174 ?_
                  refine G_istore (lv' := [(6, vI (k + ((mlenS br.2 k to) - 1))), (11, .ref q_54), (10, vI 1), (9, vI (b2i (decide (pnP (atS br.2 (k + 3)))))), (8, vI (mlenS br.2 k to)), (7, vI (atS br.2 k)), (0, .ref a), (1, .ref p), (2, vI fr), (3, vI to), (4, .ref ck), (5, .ref o)]) hC (by rw [hN]; decide) rfl d_Ma_write_175 ?_
                  refine G_iinc (lv' := [(6, vI ((k + ((mlenS br.2 k to) - 1)) + 1)), (11, .ref q_54), (10, vI 1), (9, vI (b2i (decide (pnP (atS br.2 (k + 3)))))), (8, vI (mlenS br.2 k to)), (7, vI (atS br.2 k)), (0, .ref a), (1, .ref p), (2, vI fr), (3, vI to), (4, .ref ck), (5, .ref o)]) hC 0 rfl (by rw [hN]; decide) rfl d_Ma_write_177 ?_
                  refine G_goto hC 3 (by decide) d_Ma_write_180 ?_
                  refine G_lv [6, 7, 8, 9, 10, 11, 0] rfl ?_
                  refine G_widen (k' := psi lim (wpB lim bb bq_57.2 ((bq_57.2.length : Int) + 1) true) - psi lim b) (n' := psi lim (wpB lim bb bq_57.2 ((bq_57.2.length : Int) + 1) true) - psi lim b) (by omega) (by omega) ?_
                  exact ih3 M_62 ((k + ((mlenS br.2 k to) - 1)) + 1) _ (by omega) ((hfr1.up (T := [t, t + 1, 18]) (by simp)).tr' (T := [t, t + 1, 18]) fr_67 (fun _ z => z) (by simp)) h_65 h_66 (by omega) (by rw [show (k + ((mlenS br.2 k to) - 1)) + 1 = k + mlenS br.2 k to by omega]; exact hW) (gr_tr hP hq1)
                · have c_60 := b2i_ne0.mp c_60
                  have c_60 := of_decide_eq_true c_60
                  refine G_aload_n hC 6 rfl rfl d_Ma_write_140 ?_
                  refine G_iload hC 11 rfl d_Ma_write_141 ?_
                  refine G_iconst (i := 3) hC d_Ma_write_143 ?_
                  refine G_iadd hC d_Ma_write_144 ?_
                  refine G_pV (rest := [.ref q_54, .ref a]) hC hR (c_By_at h_2 (by omega)) cv_Ma_19 h_2.obj (by decide) (by omega) (by omega) rfl rfl (Nat.le_of_ble_eq_true rfl) d_Ma_write_145 ?_
                  have g_69 := h_2.at_rng (k + 3)
                  refine G_bipush (j := 48) hC (by decide +kernel) d_Ma_write_148 ?_
                  refine G_isub hC d_Ma_write_150 ?_
                  refine G_goto hC 161 (by decide) d_Ma_write_151 ?_
                  refine G_iload hC 1 rfl d_Ma_write_161 ?_
                  refine G_aload hC 10 rfl d_Ma_write_163 ?_
                  have hsl := srcS_len (s := sd) (chk := bc.2) (c := atS br.2 (k + 2)) hsn hck
                  rw [← h_59.1] at hsl
                  have hwp : wpB lim bb bq_57.2 ((atS br.2 (k + 3)) - 48) true = wpB lim bb (srcS sd bc.2 (atS br.2 (k + 2))) (mostS sd bc.2 br.2 k) (decide (atS br.2 (k + mlenS br.2 k to - 2) = 114)) := by rw [h_59.1]; unfold mostS; rw [if_pos c_60, decide_eq_true c_18]
                  rw [← hwp] at hW
                  have hq1 := wpB_gr (lim := lim) (b := bb) bq_57.2 ((atS br.2 (k + 3)) - 48) true hP.2
                  have hpr := h_59.2
                  have hbl9 := h_58.len
                  have hq3 := wrL_gr (lim := lim) (s := sd) (chk := bc.2) (xs := br.2) (to := to) _ (k + mlenS br.2 k to) (wpB lim bb bq_57.2 ((atS br.2 (k + 3)) - 48) true) (Nat.lt_succ_self _) hq1.2
                  rw [hW] at hq3
                  refine G_xV (rest := []) hC hR (c_Ma_writeParts (tu := true) hma h_58 hb1 (by omega) (by omega) (by omega) (by omega) rfl) cv_Ma_54 ⟨_, _, hm1⟩ (by decide) (by omega) (by omega) rfl rfl (Nat.le_of_ble_eq_true rfl) d_Ma_write_165 (fun r_72 M_70 p_71 => ?_)
                  obtain ⟨rfl, h_73, h_74, fr_75⟩ := p_71
                  show G E M_70 (psi lim bb - psi lim b + 0 + (psi lim (wpB lim bb bq_57.2 ((atS br.2 (k + 3)) - 48) true) - psi lim bb)) (psi lim bb - psi lim b + 0 + (psi lim (wpB lim bb bq_57.2 ((atS br.2 (k + 3)) - 48) true) - psi lim bb)) [(11, .ref q_54), (10, vI 1), (9, vI (b2i (decide (pnP (atS br.2 (k + 3)))))), (8, vI (mlenS br.2 k to)), (7, vI (atS br.2 k)), (0, .ref a), (1, .ref p), (2, vI fr), (3, vI to), (4, .ref ck), (5, .ref o), (6, vI k)] [] 168
                  have g_76 := wpB_gr (lim := lim) (b := bb) bq_57.2 ((atS br.2 (k + 3)) - 48) true ⟨hb1.len.1, hb1.len.2.1⟩
                  refine G_iload hC 11 rfl d_Ma_write_168 ?_
                  refine G_iload hC 3 rfl d_Ma_write_170 ?_
                  refine G_iconst (i := 1) hC d_Ma_write_172 ?_
                  refine G_isub hC d_Ma_write_173 ?_
                  refine G_iadd hC d_Ma_write_174 ?_
                  refine G_istore (lv' := [(6, vI (k + ((mlenS br.2 k to) - 1))), (11, .ref q_54), (10, vI 1), (9, vI (b2i (decide (pnP (atS br.2 (k + 3)))))), (8, vI (mlenS br.2 k to)), (7, vI (atS br.2 k)), (0, .ref a), (1, .ref p), (2, vI fr), (3, vI to), (4, .ref ck), (5, .ref o)]) hC (by rw [hN]; decide) rfl d_Ma_write_175 ?_
                  refine G_iinc (lv' := [(6, vI ((k + ((mlenS br.2 k to) - 1)) + 1)), (11, .ref q_54), (10, vI 1), (9, vI (b2i (decide (pnP (atS br.2 (k + 3)))))), (8, vI (mlenS br.2 k to)), (7, vI (atS br.2 k)), (0, .ref a), (1, .ref p), (2, vI fr), (3, vI to), (4, .ref ck), (5, .ref o)]) hC 0 rfl (by rw [hN]; decide) rfl d_Ma_write_177 ?_
                  refine G_goto hC 3 (by decide) d_Ma_write_180 ?_
                  refine G_lv [6, 7, 8, 9, 10, 11, 0] rfl ?_
                  refine G_widen (k' := psi lim (wpB lim bb bq_57.2 ((atS br.2 (k + 3)) - 48) true) - psi lim b) (n' := psi lim (wpB lim bb bq_57.2 ((atS br.2 (k + 3)) - 48) true) - psi lim b) (by omega) (by omega) ?_
                  exact ih3 M_70 ((k + ((mlenS br.2 k to) - 1)) + 1) _ (by omega) ((hfr1.up (T := [t, t + 1, 18]) (by simp)).tr' (T := [t, t + 1, 18]) fr_75 (fun _ z => z) (by simp)) h_73 h_74 (by omega) (by rw [show (k + ((mlenS br.2 k to) - 1)) + 1 = k + mlenS br.2 k to by omega]; exact hW) (gr_tr hP hq1)
            · rw [wrL, dif_pos (show k < to by omega), dif_pos (show atS br.2 k = 37 ∧ ¬ mlenS br.2 k to = 0 by omega), if_pos (show mlenS br.2 k to = 2 by omega)] at hW
              have hq1 := wsB_gr (lim := lim) (b := bb) (atS br.2 (k + 1)) hP.2
              have hq3 := wrL_gr (lim := lim) (s := sd) (chk := bc.2) (xs := br.2) (to := to) _ (k + mlenS br.2 k to) (wsB lim bb (atS br.2 (k + 1))) (Nat.lt_succ_self _) hq1.2
              rw [hW] at hq3
              refine G_aload_n hC 3 rfl rfl d_Ma_write_58 ?_
              refine G_iload hC 8 rfl d_Ma_write_59 ?_
              refine G_iconst (i := 1) hC d_Ma_write_61 ?_
              refine G_iadd hC d_Ma_write_62 ?_
              refine G_pV (rest := []) hC hR (c_By_at h_2 (by omega)) cv_Ma_19 h_2.obj (by decide) (by omega) (by omega) rfl rfl (Nat.le_of_ble_eq_true rfl) d_Ma_write_63 ?_
              have g_77 := h_2.at_rng (k + 1)
              refine G_aload hC 7 rfl d_Ma_write_66 ?_
              refine G_xS (rest := []) hC hR (c_Ma_writeSign hb1 (by omega)) cs_Ma_40 (by decide) (by omega) (by omega) rfl rfl (Nat.le_of_ble_eq_true rfl) d_Ma_write_68 (fun r_80 M_78 p_79 => ?_)
              obtain ⟨rfl, h_81, fr_82⟩ := p_79
              show G E M_78 (psi lim bb - psi lim b + (psi lim (wsB lim bb (atS br.2 (k + 1))) - psi lim bb)) (psi lim bb - psi lim b + (psi lim (wsB lim bb (atS br.2 (k + 1))) - psi lim bb)) [(8, vI (mlenS br.2 k to)), (7, vI (atS br.2 k)), (0, .ref a), (1, .ref p), (2, vI fr), (3, vI to), (4, .ref ck), (5, .ref o), (6, vI k)] [] 71
              have g_83 := wsB_gr (lim := lim) (b := bb) (atS br.2 (k + 1)) ⟨hb1.len.1, hb1.len.2.1⟩
              refine G_iinc (lv' := [(6, vI (k + 1)), (8, vI (mlenS br.2 k to)), (7, vI (atS br.2 k)), (0, .ref a), (1, .ref p), (2, vI fr), (3, vI to), (4, .ref ck), (5, .ref o)]) hC 8 rfl (by rw [hN]; decide) rfl d_Ma_write_71 ?_
              refine G_goto hC 177 (by decide) d_Ma_write_74 ?_
              refine G_iinc (lv' := [(6, vI ((k + 1) + 1)), (8, vI (mlenS br.2 k to)), (7, vI (atS br.2 k)), (0, .ref a), (1, .ref p), (2, vI fr), (3, vI to), (4, .ref ck), (5, .ref o)]) hC 0 rfl (by rw [hN]; decide) rfl d_Ma_write_177 ?_
              refine G_goto hC 3 (by decide) d_Ma_write_180 ?_
              refine G_lv [3, 4, 5, 6, 7, 8, 0] rfl ?_
              have h_84 := hma.fr fr_82 (by simp only [List.mem_cons, List.not_mem_nil, or_false, not_or, not_false_eq_true]; try omega) (by simp only [List.mem_cons, List.not_mem_nil, or_false, not_or, not_false_eq_true]; try omega)
              refine G_widen (k' := psi lim (wsB lim bb (atS br.2 (k + 1))) - psi lim b) (n' := psi lim (wsB lim bb (atS br.2 (k + 1))) - psi lim b) (by omega) (by omega) ?_
              exact ih3 M_78 ((k + 1) + 1) _ (by omega) ((hfr1.up (T := [t, t + 1, 18]) (by simp)).tr' (T := [t, t + 1, 18]) fr_82 (fun _ z => z) (by simp)) h_81 h_84 (by omega) (by rw [show (k + 1) + 1 = k + mlenS br.2 k to by omega]; exact hW) (gr_tr hP hq1)
          · rw [wrL, dif_pos (show k < to by omega), dif_neg (show ¬ (atS br.2 k = 37 ∧ ¬ mlenS br.2 k to = 0) by omega)] at hW
            have hq1 := psi_addB (lim := lim) (b := bb) (atS br.2 k) hP.2
            have hq3 := wrL_gr (lim := lim) (s := sd) (chk := bc.2) (xs := br.2) (to := to) _ (k + 1) (addB lim bb (atS br.2 k)) (Nat.lt_succ_self _) hq1.2
            rw [hW] at hq3
            refine G_aload hC 7 rfl d_Ma_write_42 ?_
            refine G_iload hC 1 rfl d_Ma_write_44 ?_
            refine G_xV (rest := []) hC hR (c_By_add hb1 (by omega)) cv_Ma_36 hb1.obj (by decide) (by omega) (by omega) rfl rfl (Nat.le_of_ble_eq_true rfl) d_Ma_write_46 (fun r_87 M_85 p_86 => ?_)
            obtain ⟨rfl, h_88, fr_89⟩ := p_86
            show G E M_85 (psi lim bb - psi lim b + (psi lim (addB lim bb (atS br.2 k)) - psi lim bb)) (psi lim bb - psi lim b + (psi lim (addB lim bb (atS br.2 k)) - psi lim bb)) [(8, vI (mlenS br.2 k to)), (7, vI (atS br.2 k)), (0, .ref a), (1, .ref p), (2, vI fr), (3, vI to), (4, .ref ck), (5, .ref o), (6, vI k)] [] 49
            have g_90 := psi_addB (lim := lim) (b := bb) (atS br.2 k) ⟨hb1.len.1, hb1.len.2.1⟩
            refine G_goto hC 177 (by decide) d_Ma_write_49 ?_
            refine G_iinc (lv' := [(6, vI (k + 1)), (8, vI (mlenS br.2 k to)), (7, vI (atS br.2 k)), (0, .ref a), (1, .ref p), (2, vI fr), (3, vI to), (4, .ref ck), (5, .ref o)]) hC 8 rfl (by rw [hN]; decide) rfl d_Ma_write_177 ?_
            refine G_goto hC 3 (by decide) d_Ma_write_180 ?_
            refine G_lv [3, 4, 5, 6, 7, 8, 0] rfl ?_
            have h_91 := hma.fr fr_89 (by simp only [List.mem_cons, List.not_mem_nil, or_false, not_or, not_false_eq_true]; try omega) (by simp only [List.mem_cons, List.not_mem_nil, or_false, not_or, not_false_eq_true]; try omega)
            refine G_widen (k' := psi lim (addB lim bb (atS br.2 k)) - psi lim b) (n' := psi lim (addB lim bb (atS br.2 k)) - psi lim b) (by omega) (by omega) ?_
            exact ih3 M_85 (k + 1) _ (by omega) ((hfr1.up (T := [t, t + 1, 18]) (by simp)).tr' (T := [t, t + 1, 18]) fr_89 (fun _ z => z) (by simp)) h_88 h_91 (by omega) hW (gr_tr hP hq1)
  refine G_lv [1, 2, 3, 4, 5, 6, 0] rfl ?_
  refine G_widen (k' := psi lim b - psi lim b) (n' := psi lim b - psi lim b) (by omega) (by omega) ?_
  exact L3 _ M fr _ (Nat.lt_succ_self _) Fr.rf h_B_o h_Ma_a (by omega) hr (gr_rf ⟨by omega, by omega⟩)
end
section
/-! AN ENTRY TAKEN -/
def blkS (xs : List Int) : Int := findS xs 32 0 xs.length
def entS (xs : List Int) (sort : Int) (ad : Int32) : Option Ent := if goodP xs sort (blkS xs) then some (sort, ad, xs.take (blkS xs).toNat, xs.drop (min (blkS xs + 1) xs.length).toNat) else none
theorem IsDir_push {D : Dg} {M M' : Mp} {a ar q : Nat} {es : List Ent} {f : Nat → Option Nat} {x : Ent} {T : List Nat} (h4 : ∀ (j : Nat) (y : Ent), es[j]? = some y → ∃ e : Nat, f j = some e ∧ IsE D M e (200 + 5 * j) y) (hf : Fr T M M') (hT : ∀ u ∈ T, u = 6 ∨ u = 7 ∨ 200 + 5 * es.length ≤ u) (h1 : M' a = some (6, .inr (cDi, [.ref ar, vI ((es.length : Int) + 1)]))) (h2 : M' ar = some (7, arR D 2 40 (va_up f es.length (some q)))) (hx : IsE D M' q (200 + 5 * es.length) x) (hl : es.length < 40) : IsDir D M' a (es ++ [x]) := by
  have e9 : (((es ++ [x]).length : Nat) : Int) = (es.length : Int) + 1 := by simp
  refine ⟨ar, _, by rw [e9]; exact h1, h2, by simp; omega, fun j y hj => ?_⟩
  by_cases hjn : j < es.length
  · rw [List.getElem?_append_left hjn] at hj
    obtain ⟨e, g1, g2⟩ := h4 j y hj
    refine ⟨e, ?_, g2.fr hf (fun u hu => ?_)⟩
    · unfold va_up
      rw [if_neg (by omega)]
      exact g1
    · have := hT u hu
      omega
  · have hj2 : j = es.length := by
      have := (List.getElem?_eq_some_iff.mp hj).1
      simp at this
      omega
    subst hj2
    simp at hj
    subst hj
    refine ⟨q, ?_, hx⟩
    unfold va_up
    rw [if_pos rfl]
theorem addPB_tail {ys : List Int} {n : Nat} {v : Int} (h : 0 ≤ v ∧ v ≤ ys.length) : (addPB ((ys.length : Int) - v) (n, []) ys v ys.length).2 = ys.drop v.toNat := by
  by_cases h1 : v = ys.length
  · rw [addPB_none (by omega), List.drop_eq_nil_of_le (by omega)]
  · rw [addPB_app (by omega) (by omega), List.take_of_length_le]
    rw [List.length_drop]
    omega
theorem addPB_head {ys : List Int} {n : Nat} {v : Int} (h : 0 < v ∧ v ≤ ys.length) : (addPB v (n, []) ys 0 v).2 = ys.take v.toNat := by
  rw [addPB_app (by omega) (by omega), Int.sub_zero]
  rfl
/-- the entries behind a taking -/
def takeS (es : List Ent) (xs : List Int) (sort : Int) (ad : Int32) : Option (List Ent) := if es.length < 40 then (entS xs sort ad).map (fun x => es ++ [x]) else none
theorem take_no {es : List Ent} {xs : List Int} {sort : Int} {ad : Int32} (h : decide (es.length < 40) = false ∨ entS xs sort ad = none) : (takeS es xs sort ad).isSome = false ∧ (takeS es xs sort ad).getD es = es := by
  unfold takeS
  rcases h with h | h
  · rw [if_neg (of_decide_eq_false h)]
    exact ⟨rfl, rfl⟩
  · rw [h]
    split <;> exact ⟨rfl, rfl⟩
theorem take_yes {es : List Ent} {xs : List Int} {sort : Int} {ad : Int32} {x : Ent} (h : es.length < 40) (hx : entS xs sort ad = some x) : (takeS es xs sort ad).isSome = true ∧ (takeS es xs sort ad).getD es = es ++ [x] := by
  unfold takeS
  rw [if_pos h, hx]
  exact ⟨rfl, rfl⟩
end
section
set_option maxHeartbeats 4000000 in
set_option maxRecDepth 100000 in
theorem c_By_addPartE {l : Launch} {D : Dg} {b0 : Nat} {M : Mp} {a : Nat} {o : Nat} {fr : Int} {to : Int} {t : Nat} {lim : Int} {b : Bv} {t2 : Nat} {lim2 : Int} {b2 : Bv} (h_B_a : IsB D M a t lim b) (h_B_o : IsB D M o t2 lim2 b2) (hfr : -100000 ≤ fr ∧ fr ≤ 100000) (hto : -100000 ≤ to ∧ to ≤ 100000) (htt : t2 ≠ t ∧ t2 ≠ t + 1 ∧ t2 + 1 ≠ t ∧ t2 + 1 ≠ t + 1) : Ok l D b0 3 y_By_addPart b_By_addPart 5 none M [.ref a, .ref o, vI fr, vI to] 1 (psi lim (addPB lim b b2.2 fr to) - psi lim b) (fun r M' => r = none ∧ IsB D M' a t lim (addPB lim b b2.2 fr to) ∧ Fr [t, t + 1] M M') := by
  refine Ok_of rfl (Nat.le_of_ble_eq_true rfl) (fun E hC hQ hl hD hB hN hR => ?_)
  subst hl hD hB
  have g_6 := h_B_a.len
  obtain ⟨r_1, h_2, h_3, h_4, h_5⟩ := id h_B_a
  have g_12 := h_B_o.len
  obtain ⟨r_7, h_8, h_9, h_10, h_11⟩ := id h_B_o
  show G E M 0 0 [(0, .ref a), (1, .ref o), (2, vI fr), (3, vI to)] [] 0
  refine G_iload_n hC 2 rfl rfl d_By_addPart_0 ?_
  refine G_if_lt hC 17 (by omega) (by decide) d_By_addPart_1 (fun c_13 => ?_) (fun c_13 => ?_)
  · exact G_return hC hQ (by omega) (by omega) d_By_addPart_17 ⟨rfl, by rw [addPB_none (by omega)]; exact h_B_a, Fr.rf⟩
  · refine G_iload_n hC 2 rfl rfl d_By_addPart_4 ?_
    refine G_iload_n hC 3 rfl rfl d_By_addPart_5 ?_
    refine G_icmp_ge hC 17 (by omega) (by omega) (by decide) d_By_addPart_6 (fun c_14 => ?_) (fun c_14 => ?_)
    · exact G_return hC hQ (by omega) (by omega) d_By_addPart_17 ⟨rfl, by rw [addPB_none (by omega)]; exact h_B_a, Fr.rf⟩
    · refine G_iload_n hC 3 rfl rfl d_By_addPart_9 ?_
      refine G_aload_n hC 1 rfl rfl d_By_addPart_10 ?_
      refine G_get hC fl_By_23 h_8 rfl d_By_addPart_11 ?_
      refine G_icmp_le hC 18 (by omega) (by omega) (by decide) d_By_addPart_14 (fun c_15 => ?_) (fun c_15 => ?_)
      · refine G_iload_n hC 3 rfl rfl d_By_addPart_18 ?_
        refine G_iload_n hC 2 rfl rfl d_By_addPart_19 ?_
        refine G_isub hC d_By_addPart_20 ?_
        refine G_aload_n hC 0 rfl rfl d_By_addPart_21 ?_
        refine G_get hC fl_By_7 h_2 rfl d_By_addPart_22 ?_
        refine G_aload_n hC 0 rfl rfl d_By_addPart_25 ?_
        refine G_get hC fl_By_23 h_2 rfl d_By_addPart_26 ?_
        refine G_isub hC d_By_addPart_29 ?_
        refine G_minX (c := min (to - fr) (lim - (b.2.length : Int))) hC hR lm_By_13 (by omega) (by omega) (by omega) (Nat.le_of_ble_eq_true rfl) (Nat.le_of_ble_eq_true rfl) (by omega) (by omega) d_By_addPart_30 ?_
        refine G_istore (lv' := [(4, vI (min (to - fr) (lim - (b.2.length : Int)))), (0, .ref a), (1, .ref o), (2, vI fr), (3, vI to)]) hC (by rw [hN]; decide) rfl d_By_addPart_33 ?_
        refine G_aload_n hC 1 rfl rfl d_By_addPart_35 ?_
        refine G_get hC fl_By_23 h_2 rfl d_By_addPart_36 ?_
        refine G_iload hC 0 rfl d_By_addPart_39 ?_
        refine G_iadd hC d_By_addPart_41 ?_
        refine G_aload_n hC 1 rfl rfl d_By_addPart_42 ?_
        refine G_get hC fl_By_19 h_2 rfl d_By_addPart_43 ?_
        refine G_alenR hC h_3 d_By_addPart_46 ?_
        refine G_icmp_le hC 77 (by omega) (by omega) (by decide) d_By_addPart_47 (fun c_16 => ?_) (fun c_16 => ?_)
        · refine G_aload_n hC 2 rfl rfl d_By_addPart_77 ?_
          refine G_get hC fl_By_19 h_8 rfl d_By_addPart_78 ?_
          refine G_iload_n hC 3 rfl rfl d_By_addPart_81 ?_
          refine G_aload_n hC 1 rfl rfl d_By_addPart_82 ?_
          refine G_get hC fl_By_19 h_2 rfl d_By_addPart_83 ?_
          refine G_aload_n hC 1 rfl rfl d_By_addPart_86 ?_
          refine G_get hC fl_By_23 h_2 rfl d_By_addPart_87 ?_
          refine G_iload hC 0 rfl d_By_addPart_90 ?_
          refine G_copyBA hC hR lm_By_36 w_acN w_acS w_syI h_9 h_3 (by omega) (by omega) (by omega) (Nat.le_of_ble_eq_true rfl) (Nat.le_of_ble_eq_true rfl) d_By_addPart_92 (fun M_17 h_18 fr_19 => ?_)
          refine G_aload_n hC 1 rfl rfl d_By_addPart_95 ?_
          refine G_dup hC rfl d_By_addPart_96 ?_
          have h_20 := fr_19.at h_2 (by simp only [List.mem_cons, List.not_mem_nil, or_false, not_or, not_false_eq_true]; try omega)
          refine G_get hC fl_By_23 h_20 rfl d_By_addPart_97 ?_
          refine G_iload hC 0 rfl d_By_addPart_100 ?_
          refine G_iadd hC d_By_addPart_102 ?_
          refine G_putX (fs' := [vI lim, .ref r_1, vI ((b.2.length : Int) + (min (to - fr) (lim - (b.2.length : Int))))]) hC fl_By_23 ft_By fw_By_2 h_20 rfl rfl (Nat.le_of_ble_eq_true rfl) rfl d_By_addPart_103 (fun M_21 h_22 fr_23 => ?_)
          have h_24 := h_18.fr fr_23 (by simp only [List.mem_cons, List.not_mem_nil, or_false, not_or, not_false_eq_true]; try omega)
          have e9 : (((b.2 ++ (b2.2.drop fr.toNat).take (min (to - fr) (lim - (b.2.length : Int))).toNat).length : Nat) : Int) = (b.2.length : Int) + min (to - fr) (lim - (b.2.length : Int)) := by rw [List.length_append, List.length_take, List.length_drop]; omega
          exact G_return hC hQ (by omega) (by omega) d_By_addPart_106 ⟨rfl, by rw [addPB_fits (by omega) (by omega)]; exact ⟨r_1, by show _ = some (t, Sum.inr (cBy, [vI lim, .ref r_1, vI (((b.2 ++ (b2.2.drop fr.toNat).take (min (to - fr) (lim - (b.2.length : Int))).toNat).length : Nat) : Int)])); rw [e9]; exact h_22, h_24, by omega, by omega⟩, ((fr_19.up (T := [t, t + 1]) (by simp)).tr' (T := [t, t + 1]) fr_23 (fun _ z => z) (by simp))⟩
        · refine G_aload_n hC 1 rfl rfl d_By_addPart_50 ?_
          refine G_aload_n hC 1 rfl rfl d_By_addPart_51 ?_
          refine G_get hC fl_By_19 h_2 rfl d_By_addPart_52 ?_
          refine G_aload_n hC 1 rfl rfl d_By_addPart_55 ?_
          refine G_get hC fl_By_7 h_2 rfl d_By_addPart_56 ?_
          refine G_iconst (i := 2) hC d_By_addPart_59 ?_
          refine G_aload_n hC 1 rfl rfl d_By_addPart_60 ?_
          refine G_get hC fl_By_23 h_2 rfl d_By_addPart_61 ?_
          refine G_iload hC 0 rfl d_By_addPart_64 ?_
          refine G_iadd hC d_By_addPart_66 ?_
          refine G_imul hC d_By_addPart_67 ?_
          refine G_minX (c := min lim (2 * ((b.2.length : Int) + (min (to - fr) (lim - (b.2.length : Int)))))) hC hR lm_By_13 (by omega) (by omega) (by omega) (Nat.le_of_ble_eq_true rfl) (Nat.le_of_ble_eq_true rfl) (by omega) (by omega) d_By_addPart_68 ?_
          have h9 := grow_part (lim := lim) (b := b) b2.2 fr to ⟨by omega, by omega⟩ (by omega) (by omega)
          refine G_xS (rest := [.ref a]) hC hR (c_Arr_copyOf (t + 1) h_3 (by omega)) cs_By_26 (by decide) (by omega) (by omega) rfl rfl (Nat.le_of_ble_eq_true rfl) d_By_addPart_71 (fun r_27 M_25 p_26 => ?_)
          obtain ⟨q_28, rfl, h_29, fr_30⟩ := p_26
          show G E M_25 (0 + (1)) (0 + ((min lim (2 * ((b.2.length : Int) + (min (to - fr) (lim - (b.2.length : Int)))))).toNat)) [(4, vI (min (to - fr) (lim - (b.2.length : Int)))), (0, .ref a), (1, .ref o), (2, vI fr), (3, vI to)] [.ref q_28, .ref a] 74
          have h_31 := fr_30.at h_2 (by simp only [List.mem_cons, List.not_mem_nil, or_false, not_or, not_false_eq_true]; try omega)
          refine G_putX (fs' := [vI lim, .ref q_28, vI (b.2.length : Int)]) hC fl_By_19 ft_By fw_By_1 h_31 rfl rfl (Nat.le_of_ble_eq_true rfl) rfl d_By_addPart_74 (fun M_32 h_33 fr_34 => ?_)
          refine G_aload_n hC 2 rfl rfl d_By_addPart_77 ?_
          have h_35 := fr_30.at h_8 (by simp only [List.mem_cons, List.not_mem_nil, or_false, not_or, not_false_eq_true]; try omega)
          have h_36 := fr_34.at h_35 (by simp only [List.mem_cons, List.not_mem_nil, or_false, not_or, not_false_eq_true]; try omega)
          refine G_get hC fl_By_19 h_36 rfl d_By_addPart_78 ?_
          refine G_iload_n hC 3 rfl rfl d_By_addPart_81 ?_
          refine G_aload_n hC 1 rfl rfl d_By_addPart_82 ?_
          refine G_get hC fl_By_19 h_33 rfl d_By_addPart_83 ?_
          refine G_aload_n hC 1 rfl rfl d_By_addPart_86 ?_
          refine G_get hC fl_By_23 h_33 rfl d_By_addPart_87 ?_
          refine G_iload hC 0 rfl d_By_addPart_90 ?_
          have h_37 := h_9.fr fr_30 (by simp only [List.mem_cons, List.not_mem_nil, or_false, not_or, not_false_eq_true]; try omega)
          have h_38 := h_37.fr fr_34 (by simp only [List.mem_cons, List.not_mem_nil, or_false, not_or, not_false_eq_true]; try omega)
          have h_39 := h_29.fr fr_34 (by simp only [List.mem_cons, List.not_mem_nil, or_false, not_or, not_false_eq_true]; try omega)
          refine G_copyBA hC hR lm_By_36 w_acN w_acS w_syI h_38 h_39 (by omega) (by omega) (by omega) (Nat.le_of_ble_eq_true rfl) (Nat.le_of_ble_eq_true rfl) d_By_addPart_92 (fun M_40 h_41 fr_42 => ?_)
          refine G_aload_n hC 1 rfl rfl d_By_addPart_95 ?_
          refine G_dup hC rfl d_By_addPart_96 ?_
          have h_43 := fr_42.at h_33 (by simp only [List.mem_cons, List.not_mem_nil, or_false, not_or, not_false_eq_true]; try omega)
          refine G_get hC fl_By_23 h_43 rfl d_By_addPart_97 ?_
          refine G_iload hC 0 rfl d_By_addPart_100 ?_
          refine G_iadd hC d_By_addPart_102 ?_
          refine G_putX (fs' := [vI lim, .ref q_28, vI ((b.2.length : Int) + (min (to - fr) (lim - (b.2.length : Int))))]) hC fl_By_23 ft_By fw_By_2 h_43 rfl rfl (Nat.le_of_ble_eq_true rfl) rfl d_By_addPart_103 (fun M_44 h_45 fr_46 => ?_)
          have h_47 := h_41.fr fr_46 (by simp only [List.mem_cons, List.not_mem_nil, or_false, not_or, not_false_eq_true]; try omega)
          have e9 : (((b.2 ++ (b2.2.drop fr.toNat).take (min (to - fr) (lim - (b.2.length : Int))).toNat).length : Nat) : Int) = (b.2.length : Int) + min (to - fr) (lim - (b.2.length : Int)) := by rw [List.length_append, List.length_take, List.length_drop]; omega
          exact G_return hC hQ (by omega) (by omega) d_By_addPart_106 ⟨rfl, by rw [addPB_grow (by omega) (by omega)]; exact ⟨q_28, by show _ = some (t, Sum.inr (cBy, [vI lim, .ref q_28, vI (((b.2 ++ (b2.2.drop fr.toNat).take (min (to - fr) (lim - (b.2.length : Int))).toNat).length : Nat) : Int)])); rw [e9]; exact h_45, h_47, by show (((min lim (2 * ((b.2.length : Int) + min (to - fr) (lim - (b.2.length : Int))))).toNat : Nat) : Int) ≤ lim; omega, by omega⟩, ((((fr_30.up (T := [t, t + 1]) (by simp)).tr' (T := [t, t + 1]) fr_34 (fun _ z => z) (by simp)).tr' (T := [t, t + 1]) fr_42 (fun _ z => z) (by simp)).tr' (T := [t, t + 1]) fr_46 (fun _ z => z) (by simp))⟩
      · exact G_return hC hQ (by omega) (by omega) d_By_addPart_17 ⟨rfl, by rw [addPB_none (by omega)]; exact h_B_a, Fr.rf⟩

set_option maxHeartbeats 4000000 in
set_option maxRecDepth 100000 in
theorem c_Di_take {l : Launch} {D : Dg} {b0 : Nat} {M : Mp} {a : Nat} {sort : Int} {ad : Int32} {o : Nat} {es : List Ent} {lim : Int} {b : Bv} (h_Dir_a : IsDir D M a es) (h_B_o : IsB D M o 2 lim b) (hs : -2147483648 ≤ sort ∧ sort ≤ 2147483647) (hl : b.2.length ≤ 800) : Ok l D b0 5 y_Di_take b_Di_take 7 (some .boolean) M [.ref a, vI sort, .int ad, .ref o] 7 2700 (fun r M' => r = some (vI (b2i (takeS es b.2 sort ad).isSome)) ∧ IsDir D M' a ((takeS es b.2 sort ad).getD es) ∧ Fr [6, 7, 200 + 5 * es.length, 200 + 5 * es.length + 1, 200 + 5 * es.length + 2, 200 + 5 * es.length + 3, 200 + 5 * es.length + 4] M M') := by
  refine Ok_of rfl (Nat.le_of_ble_eq_true rfl) (fun E hC hQ hl hD hB hN hR => ?_)
  subst hl hD hB
  have hD9 := h_Dir_a.len
  obtain ⟨ar_1, f_2, h_3, h_4, h_5, h_6⟩ := id h_Dir_a
  have hB9 := h_B_o.len
  have hbk := findS_rng b.2 32 0 (b.2.length : Int)
  show G E M 0 0 [(0, .ref a), (1, vI sort), (2, .int ad), (3, .ref o)] [] 0
  refine G_aload_n hC 3 rfl rfl d_Di_take_0 ?_
  refine G_bipush (j := 32) hC (by decide +kernel) d_Di_take_1 ?_
  refine G_iconst (i := 0) hC d_Di_take_3 ?_
  refine G_aload_n hC 3 rfl rfl d_Di_take_4 ?_
  refine G_pV (rest := [vI 0, vI 32, .ref o]) hC hR (c_By_size h_B_o) cv_Di_21 h_B_o.obj (by decide) (by omega) (by omega) rfl rfl (Nat.le_of_ble_eq_true rfl) d_Di_take_5 ?_
  have g_7 := h_B_o.len
  refine G_pV (rest := []) hC hR (c_By_find h_B_o (by omega) (by omega) (by omega) rfl) cv_Di_26 h_B_o.obj (by decide) (by omega) (by omega) rfl rfl (Nat.le_of_ble_eq_true rfl) d_Di_take_8 ?_
  have g_8 := findS_rng b.2 32 0 (b.2.length : Int)
  refine G_istore (lv' := [(4, vI (findS b.2 32 0 (b.2.length : Int))), (0, .ref a), (1, vI sort), (2, .int ad), (3, .ref o)]) hC (by rw [hN]; decide) rfl d_Di_take_11 ?_
  refine G_aload_n hC 1 rfl rfl d_Di_take_13 ?_
  refine G_get hC fl_Di_17 h_3 rfl d_Di_take_14 ?_
  refine G_aload_n hC 1 rfl rfl d_Di_take_17 ?_
  refine G_get hC fl_Di_11 h_3 rfl d_Di_take_18 ?_
  refine G_alen (q := 2) hC h_4 rfl d_Di_take_21 ?_
  refine G_icmp_ge hC 35 (by omega) (by omega) (by decide) d_Di_take_22 (fun c_9 => ?_) (fun c_9 => ?_)
  · refine G_iconst (i := 0) hC d_Di_take_35 ?_
    have hE : decide (es.length < 40) = false ∨ entS b.2 sort ad = none := by first | exact Or.inl (decide_eq_false (by omega)) | exact Or.inr (if_neg c_9)
    exact G_zretX _ hC hQ (by omega) (by omega) d_Di_take_36 (b2i_f (take_no hE).1) ⟨rfl, by rw [(take_no hE).2]; exact h_Dir_a, Fr.rf⟩
  · refine G_iload_n hC 2 rfl rfl d_Di_take_25 ?_
    refine G_aload_n hC 4 rfl rfl d_Di_take_26 ?_
    refine G_iload hC 0 rfl d_Di_take_27 ?_
    refine G_pS (rest := []) hC hR (c_Di_isGood h_B_o (by omega) (by omega)) cs_Di_30 (by decide) (by omega) (by omega) rfl rfl (Nat.le_of_ble_eq_true rfl) d_Di_take_29 ?_
    refine G_if_ne hC 37 (by have := b2i_rng (decide (goodP b.2 sort (findS b.2 32 0 (b.2.length : Int)))); omega) (by decide) d_Di_take_32 (fun c_10 => ?_) (fun c_10 => ?_)
    · have c_10 := b2i_ne0.mp c_10
      have c_10 := of_decide_eq_true c_10
      refine G_iload hC 0 rfl d_Di_take_37 ?_
      refine G_iconst (i := 1) hC d_Di_take_39 ?_
      refine G_iadd hC d_Di_take_40 ?_
      refine G_aload_n hC 4 rfl rfl d_Di_take_41 ?_
      refine G_pV (rest := [vI ((findS b.2 32 0 (b.2.length : Int)) + 1)]) hC hR (c_By_size h_B_o) cv_Di_21 h_B_o.obj (by decide) (by omega) (by omega) rfl rfl (Nat.le_of_ble_eq_true rfl) d_Di_take_42 ?_
      have g_11 := h_B_o.len
      refine G_minX (c := min ((findS b.2 32 0 (b.2.length : Int)) + 1) (b.2.length : Int)) hC hR lm_Di_34 (by omega) (by omega) (by omega) (Nat.le_of_ble_eq_true rfl) (Nat.le_of_ble_eq_true rfl) (by omega) (by omega) d_Di_take_45 ?_
      refine G_istore (lv' := [(5, vI (min ((findS b.2 32 0 (b.2.length : Int)) + 1) (b.2.length : Int))), (4, vI (findS b.2 32 0 (b.2.length : Int))), (0, .ref a), (1, vI sort), (2, .int ad), (3, .ref o)]) hC (by rw [hN]; decide) rfl d_Di_take_48 ?_
      refine G_newX (200 + 5 * es.length) [vI 0, .int 0, .null, .null] hC hR nw_Di_9 (fun j hj => by rcases (show j = 0 ∨ j = 1 ∨ j = 2 ∨ j = 3 by omega) with rfl | rfl | rfl | rfl <;> rfl) (by omega) (by omega) d_Di_take_50 (fun q_12 M_13 h_14 fr_15 => ?_)
      refine G_dup hC rfl d_Di_take_53 ?_
      refine G_iload_n hC 3 rfl rfl d_Di_take_54 ?_
      refine G_iload_n hC 4 rfl rfl d_Di_take_55 ?_
      refine G_iload hC 1 rfl d_Di_take_56 ?_
      refine G_aload_n hC 5 rfl rfl d_Di_take_58 ?_
      have h_16 := h_B_o.fr fr_15 (by decide) (by decide)
      refine G_pV (rest := [vI (findS b.2 32 0 (b.2.length : Int)), .int ad, vI sort, .ref q_12, .ref q_12]) hC hR (c_By_size h_16) cv_Di_21 h_16.obj (by decide) (by omega) (by omega) rfl rfl (Nat.le_of_ble_eq_true rfl) d_Di_take_59 ?_
      have g_17 := h_16.len
      refine G_iload hC 0 rfl d_Di_take_62 ?_
      refine G_isub hC d_Di_take_64 ?_
      refine G_xI (rest := [.ref q_12]) hC hR (c_En_init h_14 (by omega) (by omega)) ci_Di_40 (by decide) (by omega) (by omega) rfl rfl (Nat.le_of_ble_eq_true rfl) d_Di_take_65 (fun r_20 M_18 p_19 => ?_)
      obtain ⟨nm_21, vl_22, rfl, h_23, h_24, h_25, fr_26⟩ := p_19
      show G E M_18 (0 + 1 + (4)) (0 + 4 + (6 + (min (findS b.2 32 0 (b.2.length : Int)) 64 : Int).toNat + (min ((b.2.length : Int) - (min ((findS b.2 32 0 (b.2.length : Int)) + 1) (b.2.length : Int))) 64 : Int).toNat)) [(5, vI (min ((findS b.2 32 0 (b.2.length : Int)) + 1) (b.2.length : Int))), (4, vI (findS b.2 32 0 (b.2.length : Int))), (0, .ref a), (1, vI sort), (2, .int ad), (3, .ref o)] [.ref q_12] 68
      refine G_astore (lv' := [(6, .ref q_12), (5, vI (min ((findS b.2 32 0 (b.2.length : Int)) + 1) (b.2.length : Int))), (4, vI (findS b.2 32 0 (b.2.length : Int))), (0, .ref a), (1, vI sort), (2, .int ad), (3, .ref o)]) hC (by rw [hN]; decide) rfl d_Di_take_68 ?_
      refine G_aload hC 0 rfl d_Di_take_70 ?_
      refine G_get hC fl_Di_43 h_23 rfl d_Di_take_72 ?_
      refine G_aload_n hC 6 rfl rfl d_Di_take_75 ?_
      refine G_iconst (i := 0) hC d_Di_take_76 ?_
      refine G_iload hC 2 rfl d_Di_take_77 ?_
      have hz1 := psi_max (lim := (findS b.2 32 0 (b.2.length : Int))) (b := addPB (findS b.2 32 0 (b.2.length : Int)) ((min (findS b.2 32 0 (b.2.length : Int)) 64 : Int).toNat, []) b.2 0 (findS b.2 32 0 (b.2.length : Int))) (psi_addPB (lim := (findS b.2 32 0 (b.2.length : Int))) (b := ((min (findS b.2 32 0 (b.2.length : Int)) 64 : Int).toNat, [])) b.2 0 (findS b.2 32 0 (b.2.length : Int)) ⟨Nat.zero_le _, by show (((min (findS b.2 32 0 (b.2.length : Int)) 64 : Int).toNat : Nat) : Int) ≤ _; omega⟩).2.2
      have h_27 := h_16.fr fr_26 (by simp only [List.mem_cons, List.not_mem_nil, or_false, not_or, not_false_eq_true]; try omega) (by simp only [List.mem_cons, List.not_mem_nil, or_false, not_or, not_false_eq_true]; try omega)
      refine G_xV (rest := []) hC hR (c_By_addPartE h_24 h_27 (by omega) (by omega) (by omega)) cv_Di_47 h_24.obj (by decide) (by omega) (by omega) rfl rfl (Nat.le_of_ble_eq_true rfl) d_Di_take_79 (fun r_30 M_28 p_29 => ?_)
      obtain ⟨rfl, h_31, fr_32⟩ := p_29
      show G E M_28 (0 + 1 + (4) + (1)) (0 + 4 + (6 + (min (findS b.2 32 0 (b.2.length : Int)) 64 : Int).toNat + (min ((b.2.length : Int) - (min ((findS b.2 32 0 (b.2.length : Int)) + 1) (b.2.length : Int))) 64 : Int).toNat) + (psi (findS b.2 32 0 (b.2.length : Int)) (addPB (findS b.2 32 0 (b.2.length : Int)) ((min (findS b.2 32 0 (b.2.length : Int)) 64 : Int).toNat, []) b.2 0 (findS b.2 32 0 (b.2.length : Int))) - psi (findS b.2 32 0 (b.2.length : Int)) ((min (findS b.2 32 0 (b.2.length : Int)) 64 : Int).toNat, []))) [(6, .ref q_12), (5, vI (min ((findS b.2 32 0 (b.2.length : Int)) + 1) (b.2.length : Int))), (4, vI (findS b.2 32 0 (b.2.length : Int))), (0, .ref a), (1, vI sort), (2, .int ad), (3, .ref o)] [] 82
      have g_33 := psi_addPB (lim := (findS b.2 32 0 (b.2.length : Int))) (b := ((min (findS b.2 32 0 (b.2.length : Int)) 64 : Int).toNat, [])) b.2 0 (findS b.2 32 0 (b.2.length : Int)) ⟨h_24.len.1, h_24.len.2.1⟩
      refine G_aload hC 0 rfl d_Di_take_82 ?_
      have h_34 := fr_32.at h_23 (by simp only [List.mem_cons, List.not_mem_nil, or_false, not_or, not_false_eq_true]; try omega)
      refine G_get hC fl_Di_51 h_34 rfl d_Di_take_84 ?_
      refine G_aload_n hC 6 rfl rfl d_Di_take_87 ?_
      refine G_iload hC 1 rfl d_Di_take_88 ?_
      refine G_aload_n hC 6 rfl rfl d_Di_take_90 ?_
      have h_35 := h_27.fr fr_32 (by simp only [List.mem_cons, List.not_mem_nil, or_false, not_or, not_false_eq_true]; try omega) (by simp only [List.mem_cons, List.not_mem_nil, or_false, not_or, not_false_eq_true]; try omega)
      refine G_pV (rest := [vI (min ((findS b.2 32 0 (b.2.length : Int)) + 1) (b.2.length : Int)), .ref o, .ref vl_22]) hC hR (c_By_size h_35) cv_Di_21 h_35.obj (by decide) (by omega) (by omega) rfl rfl (Nat.le_of_ble_eq_true rfl) d_Di_take_91 ?_
      have g_36 := h_35.len
      have h_37 := h_25.fr fr_32 (by simp only [List.mem_cons, List.not_mem_nil, or_false, not_or, not_false_eq_true]; try omega) (by simp only [List.mem_cons, List.not_mem_nil, or_false, not_or, not_false_eq_true]; try omega)
      have hz2 := psi_max (lim := ((b.2.length : Int) - (min ((findS b.2 32 0 (b.2.length : Int)) + 1) (b.2.length : Int)))) (b := addPB ((b.2.length : Int) - (min ((findS b.2 32 0 (b.2.length : Int)) + 1) (b.2.length : Int))) ((min ((b.2.length : Int) - (min ((findS b.2 32 0 (b.2.length : Int)) + 1) (b.2.length : Int))) 64 : Int).toNat, []) b.2 (min ((findS b.2 32 0 (b.2.length : Int)) + 1) (b.2.length : Int)) (b.2.length : Int)) (psi_addPB (lim := ((b.2.length : Int) - (min ((findS b.2 32 0 (b.2.length : Int)) + 1) (b.2.length : Int)))) (b := ((min ((b.2.length : Int) - (min ((findS b.2 32 0 (b.2.length : Int)) + 1) (b.2.length : Int))) 64 : Int).toNat, [])) b.2 (min ((findS b.2 32 0 (b.2.length : Int)) + 1) (b.2.length : Int)) (b.2.length : Int) ⟨Nat.zero_le _, by show (((min ((b.2.length : Int) - (min ((findS b.2 32 0 (b.2.length : Int)) + 1) (b.2.length : Int))) 64 : Int).toNat : Nat) : Int) ≤ _; omega⟩).2.2
      refine G_xV (rest := []) hC hR (c_By_addPartE h_37 h_35 (by omega) (by omega) (by omega)) cv_Di_47 h_37.obj (by decide) (by omega) (by omega) rfl rfl (Nat.le_of_ble_eq_true rfl) d_Di_take_94 (fun r_40 M_38 p_39 => ?_)
      obtain ⟨rfl, h_41, fr_42⟩ := p_39
      show G E M_38 (0 + 1 + (4) + (1) + (1)) (0 + 4 + (6 + (min (findS b.2 32 0 (b.2.length : Int)) 64 : Int).toNat + (min ((b.2.length : Int) - (min ((findS b.2 32 0 (b.2.length : Int)) + 1) (b.2.length : Int))) 64 : Int).toNat) + (psi (findS b.2 32 0 (b.2.length : Int)) (addPB (findS b.2 32 0 (b.2.length : Int)) ((min (findS b.2 32 0 (b.2.length : Int)) 64 : Int).toNat, []) b.2 0 (findS b.2 32 0 (b.2.length : Int))) - psi (findS b.2 32 0 (b.2.length : Int)) ((min (findS b.2 32 0 (b.2.length : Int)) 64 : Int).toNat, [])) + (psi ((b.2.length : Int) - (min ((findS b.2 32 0 (b.2.length : Int)) + 1) (b.2.length : Int))) (addPB ((b.2.length : Int) - (min ((findS b.2 32 0 (b.2.length : Int)) + 1) (b.2.length : Int))) ((min ((b.2.length : Int) - (min ((findS b.2 32 0 (b.2.length : Int)) + 1) (b.2.length : Int))) 64 : Int).toNat, []) b.2 (min ((findS b.2 32 0 (b.2.length : Int)) + 1) (b.2.length : Int)) (b.2.length : Int)) - psi ((b.2.length : Int) - (min ((findS b.2 32 0 (b.2.length : Int)) + 1) (b.2.length : Int))) ((min ((b.2.length : Int) - (min ((findS b.2 32 0 (b.2.length : Int)) + 1) (b.2.length : Int))) 64 : Int).toNat, []))) [(6, .ref q_12), (5, vI (min ((findS b.2 32 0 (b.2.length : Int)) + 1) (b.2.length : Int))), (4, vI (findS b.2 32 0 (b.2.length : Int))), (0, .ref a), (1, vI sort), (2, .int ad), (3, .ref o)] [] 97
      have g_43 := psi_addPB (lim := ((b.2.length : Int) - (min ((findS b.2 32 0 (b.2.length : Int)) + 1) (b.2.length : Int)))) (b := ((min ((b.2.length : Int) - (min ((findS b.2 32 0 (b.2.length : Int)) + 1) (b.2.length : Int))) 64 : Int).toNat, [])) b.2 (min ((findS b.2 32 0 (b.2.length : Int)) + 1) (b.2.length : Int)) (b.2.length : Int) ⟨h_37.len.1, h_37.len.2.1⟩
      refine G_aload_n hC 3 rfl rfl d_Di_take_97 ?_
      have h_44 := fr_15.at h_3 (by decide)
      have h_45 := fr_26.at h_44 (by simp only [List.mem_cons, List.not_mem_nil, or_false, not_or, not_false_eq_true]; try omega)
      have h_46 := fr_32.at h_45 (by simp only [List.mem_cons, List.not_mem_nil, or_false, not_or, not_false_eq_true]; try omega)
      have h_47 := fr_42.at h_46 (by simp only [List.mem_cons, List.not_mem_nil, or_false, not_or, not_false_eq_true]; try omega)
      refine G_get hC fl_Di_11 h_47 rfl d_Di_take_98 ?_
      refine G_aload_n hC 3 rfl rfl d_Di_take_101 ?_
      refine G_get hC fl_Di_17 h_47 rfl d_Di_take_102 ?_
      refine G_aload hC 0 rfl d_Di_take_105 ?_
      have h_48 := fr_15.at h_4 (by decide)
      have h_49 := fr_26.at h_48 (by simp only [List.mem_cons, List.not_mem_nil, or_false, not_or, not_false_eq_true]; try omega)
      have h_50 := fr_32.at h_49 (by simp only [List.mem_cons, List.not_mem_nil, or_false, not_or, not_false_eq_true]; try omega)
      have h_51 := fr_42.at h_50 (by simp only [List.mem_cons, List.not_mem_nil, or_false, not_or, not_false_eq_true]; try omega)
      have h_52 := fr_42.at h_34 (by simp only [List.mem_cons, List.not_mem_nil, or_false, not_or, not_false_eq_true]; try omega)
      refine G_aastX hC h_51 rfl rfl h_52 (by omega) (by omega) d_Di_take_107 (fun M_53 h_54 fr_55 => ?_)
      refine G_aload_n hC 3 rfl rfl d_Di_take_108 ?_
      refine G_dup hC rfl d_Di_take_109 ?_
      have h_56 := fr_55.at h_47 (by decide)
      refine G_get hC fl_Di_17 h_56 rfl d_Di_take_110 ?_
      refine G_iconst (i := 1) hC d_Di_take_113 ?_
      refine G_iadd hC d_Di_take_114 ?_
      refine G_putX (fs' := [.ref ar_1, vI ((es.length : Int) + 1)]) hC fl_Di_17 ft_Di fw_Di_1 h_56 rfl rfl (Nat.le_of_ble_eq_true rfl) rfl d_Di_take_115 (fun M_57 h_58 fr_59 => ?_)
      refine G_iconst (i := 1) hC d_Di_take_118 ?_
      have hE : entS b.2 sort ad = some (sort, ad, b.2.take (blkS b.2).toNat, b.2.drop (min (blkS b.2 + 1) b.2.length).toNat) := if_pos c_10
      have hlt : es.length < 40 := by omega
      have h_60 := fr_59.at h_54 (by decide)
      have h_61 := fr_55.at h_52 (by simp only [List.mem_cons, List.not_mem_nil, or_false, not_or, not_false_eq_true]; try omega)
      have h_62 := fr_59.at h_61 (by simp only [List.mem_cons, List.not_mem_nil, or_false, not_or, not_false_eq_true]; try omega)
      have h_63 := h_31.fr fr_42 (by simp only [List.mem_cons, List.not_mem_nil, or_false, not_or, not_false_eq_true]; try omega) (by simp only [List.mem_cons, List.not_mem_nil, or_false, not_or, not_false_eq_true]; try omega)
      have h_64 := h_63.fr fr_55 (by simp only [List.mem_cons, List.not_mem_nil, or_false, not_or, not_false_eq_true]; try omega) (by simp only [List.mem_cons, List.not_mem_nil, or_false, not_or, not_false_eq_true]; try omega)
      have h_65 := h_64.fr fr_59 (by simp only [List.mem_cons, List.not_mem_nil, or_false, not_or, not_false_eq_true]; try omega) (by simp only [List.mem_cons, List.not_mem_nil, or_false, not_or, not_false_eq_true]; try omega)
      have h_66 := h_41.fr fr_55 (by simp only [List.mem_cons, List.not_mem_nil, or_false, not_or, not_false_eq_true]; try omega) (by simp only [List.mem_cons, List.not_mem_nil, or_false, not_or, not_false_eq_true]; try omega)
      have h_67 := h_66.fr fr_59 (by simp only [List.mem_cons, List.not_mem_nil, or_false, not_or, not_false_eq_true]; try omega) (by simp only [List.mem_cons, List.not_mem_nil, or_false, not_or, not_false_eq_true]; try omega)
      have hF : Fr [6, 7, 200 + 5 * es.length, 200 + 5 * es.length + 1, 200 + 5 * es.length + 2, 200 + 5 * es.length + 3, 200 + 5 * es.length + 4] M M_57 := ((((((fr_15.up (T := [6, 7, 200 + 5 * es.length, 200 + 5 * es.length + 1, 200 + 5 * es.length + 2, 200 + 5 * es.length + 3, 200 + 5 * es.length + 4]) (by simp)).tr' (T := [6, 7, 200 + 5 * es.length, 200 + 5 * es.length + 1, 200 + 5 * es.length + 2, 200 + 5 * es.length + 3, 200 + 5 * es.length + 4]) fr_26 (fun _ z => z) (by simp)).tr' (T := [6, 7, 200 + 5 * es.length, 200 + 5 * es.length + 1, 200 + 5 * es.length + 2, 200 + 5 * es.length + 3, 200 + 5 * es.length + 4]) fr_32 (fun _ z => z) (by simp)).tr' (T := [6, 7, 200 + 5 * es.length, 200 + 5 * es.length + 1, 200 + 5 * es.length + 2, 200 + 5 * es.length + 3, 200 + 5 * es.length + 4]) fr_42 (fun _ z => z) (by simp)).tr' (T := [6, 7, 200 + 5 * es.length, 200 + 5 * es.length + 1, 200 + 5 * es.length + 2, 200 + 5 * es.length + 3, 200 + 5 * es.length + 4]) fr_55 (fun _ z => z) (by simp)).tr' (T := [6, 7, 200 + 5 * es.length, 200 + 5 * es.length + 1, 200 + 5 * es.length + 2, 200 + 5 * es.length + 3, 200 + 5 * es.length + 4]) fr_59 (fun _ z => z) (by simp))
      have hnm := nameL_ne c_10.1
      have hX : IsE (eD E) M_57 q_12 (200 + 5 * es.length) (sort, ad, b.2.take (blkS b.2).toNat, b.2.drop (min (blkS b.2 + 1) b.2.length).toNat) := ⟨nm_21, vl_22, _, _, _, _, h_62, h_65, h_67, addPB_head (by unfold blkS at *; omega), addPB_tail (by omega), by show 0 ≤ sort; have hg := c_10.2; omega, by show sort ≤ 3; have hg := c_10.2; omega⟩
      have hDn := IsDir_push h_6 hF (by intro u hu; simp only [List.mem_cons, List.not_mem_nil, or_false] at hu; omega) h_58 h_60 hX hlt
      exact G_zretX _ hC hQ (by omega) (by omega) d_Di_take_119 (b2i_t (take_yes hlt hE).1) ⟨rfl, by rw [(take_yes hlt hE).2]; exact hDn, hF⟩
    · have c_10 := b2i_eq0.mp c_10
      have c_10 := of_decide_eq_false c_10
      refine G_iconst (i := 0) hC d_Di_take_35 ?_
      have hE : decide (es.length < 40) = false ∨ entS b.2 sort ad = none := by first | exact Or.inl (decide_eq_false (by omega)) | exact Or.inr (if_neg c_10)
      exact G_zretX _ hC hQ (by omega) (by omega) d_Di_take_36 (b2i_f (take_no hE).1) ⟨rfl, by rw [(take_no hE).2]; exact h_Dir_a, Fr.rf⟩
end
