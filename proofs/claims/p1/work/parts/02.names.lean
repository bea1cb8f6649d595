theorem goodIn_r {big : List Cond} (ws : List Cond) (ps : List Nat) (hp : ws = ps.filterMap (fun i => big[i]?)) (h : ws.all goodWord = true) : GoodIn big ws := by
  intro w hw
  have h1 := List.all_eq_true.mp h w hw
  rw [hp] at hw
  obtain ⟨i, -, hi⟩ := List.mem_filterMap.mp hw
  have hm : w ∈ big := by first | exact List.mem_of_getElem? hi | exact List.getElem?_mem hi
  exact ⟨hm, good_of_word h1⟩
def RX0 : String := "ClapBank$Book"
def TX0 : u_T := fun k => match k with
  | 0 => ("ClapBank$Book", "deeds", "I", false)
  | _ => ("ClapBank$Book", "parts", "[I", true)
def tyX0 : Nat → FieldType := fun k => match k with
  | 0 => .int
  | _ => .array .int
abbrev wsX00 : List Cond := u_ws RX0 TX0 2
theorem nmX0 : ∀ a, a < 2 → ∀ b, b < 2 → a ≠ b → (TX0 a).2.1 ≠ (TX0 b).2.1 := by decide +kernel
theorem tyX0_ok : ∀ k, k < 2 → parseFieldDescriptor (TX0 k).2.2.1 = some (tyX0 k) := by decide +kernel
abbrev cX0_init : ByteArray := prog_2_method_1_code
def yX0_init : MethodName := ⟨RX0, "<init>", "()V"⟩
def RX1 : String := "ClapBank$Dark"
def TX1 : u_T := fun k => match k with
  | 0 => ("ClapBank$Dark", "minutes", "I", false)
  | _ => ("ClapBank$Dark", "halves", "[I", true)
def tyX1 : Nat → FieldType := fun k => match k with
  | 0 => .int
  | _ => .array .int
abbrev wsX10 : List Cond := u_ws RX1 TX1 2
theorem nmX1 : ∀ a, a < 2 → ∀ b, b < 2 → a ≠ b → (TX1 a).2.1 ≠ (TX1 b).2.1 := by decide +kernel
theorem tyX1_ok : ∀ k, k < 2 → parseFieldDescriptor (TX1 k).2.2.1 = some (tyX1 k) := by decide +kernel
abbrev cX1_init : ByteArray := prog_3_method_1_code
def yX1_init : MethodName := ⟨RX1, "<init>", "()V"⟩
def RX2 : String := "ClapBank$Evening"
def TX2 : u_T := fun k => match k with
  | 0 => ("ClapBank$Evening", "house", "LClapBank$Theatre;", false)
  | 1 => ("ClapBank$Evening", "left", "[I", true)
  | 2 => ("ClapBank$Evening", "owes", "[I", true)
  | 3 => ("ClapBank$Evening", "got", "[I", true)
  | 4 => ("ClapBank$Evening", "saved", "[I", true)
  | 5 => ("ClapBank$Evening", "starved", "[I", true)
  | 6 => ("ClapBank$Evening", "storms", "[I", true)
  | 7 => ("ClapBank$Evening", "drawnFrom", "[I", true)
  | 8 => ("ClapBank$Evening", "chest", "I", false)
  | 9 => ("ClapBank$Evening", "encores", "I", false)
  | 10 => ("ClapBank$Evening", "nights", "I", false)
  | 11 => ("ClapBank$Evening", "claps", "I", false)
  | 12 => ("ClapBank$Evening", "hushed", "I", false)
  | _ => ("ClapBank$Evening", "echo", "I", false)
def tyX2 : Nat → FieldType := fun k => match k with
  | 0 => .object "ClapBank$Theatre"
  | 1 => .array .int
  | 2 => .array .int
  | 3 => .array .int
  | 4 => .array .int
  | 5 => .array .int
  | 6 => .array .int
  | 7 => .array .int
  | 8 => .int
  | 9 => .int
  | 10 => .int
  | 11 => .int
  | 12 => .int
  | _ => .int
abbrev wsX20 : List Cond := u_ws RX2 TX2 14
theorem nmX2 : ∀ a, a < 14 → ∀ b, b < 14 → a ≠ b → (TX2 a).2.1 ≠ (TX2 b).2.1 := by decide +kernel
theorem tyX2_ok : ∀ k, k < 14 → parseFieldDescriptor (TX2 k).2.2.1 = some (tyX2 k) := by decide +kernel
abbrev cX2_init : ByteArray := prog_4_method_1_code
def yX2_init : MethodName := ⟨RX2, "<init>", "()V"⟩
def RX3 : String := "ClapBank$Feast"
def TX3 : u_T := fun k => match k with
  | 0 => ("ClapBank$Feast", "who", "I", false)
  | 1 => ("ClapBank$Feast", "two", "I", false)
  | _ => ("ClapBank$Feast", "one", "I", false)
def tyX3 : Nat → FieldType := fun k => match k with
  | 0 => .int
  | 1 => .int
  | _ => .int
abbrev cX3_init : ByteArray := prog_5_method_1_code
def yX3_init : MethodName := ⟨RX3, "<init>", "()V"⟩
def RX4 : String := "ClapBank$Hearing"
def TX4 : u_T := fun k => match k with
  | 0 => ("ClapBank$Hearing", "house", "LClapBank$Theatre;", false)
  | 1 => ("ClapBank$Hearing", "dark", "LClapBank$Dark;", false)
  | 2 => ("ClapBank$Hearing", "early", "[I", true)
  | 3 => ("ClapBank$Hearing", "late", "[I", true)
  | 4 => ("ClapBank$Hearing", "halvesOf", "[I", true)
  | 5 => ("ClapBank$Hearing", "onceOf", "[I", true)
  | 6 => ("ClapBank$Hearing", "sets", "I", false)
  | 7 => ("ClapBank$Hearing", "any", "I", false)
  | _ => ("ClapBank$Hearing", "all", "I", false)
def tyX4 : Nat → FieldType := fun k => match k with
  | 0 => .object "ClapBank$Theatre"
  | 1 => .object "ClapBank$Dark"
  | 2 => .array .int
  | 3 => .array .int
  | 4 => .array .int
  | 5 => .array .int
  | 6 => .int
  | 7 => .int
  | _ => .int
abbrev wsX40 : List Cond := u_ws RX4 TX4 9
theorem nmX4 : ∀ a, a < 9 → ∀ b, b < 9 → a ≠ b → (TX4 a).2.1 ≠ (TX4 b).2.1 := by decide +kernel
theorem tyX4_ok : ∀ k, k < 9 → parseFieldDescriptor (TX4 k).2.2.1 = some (tyX4 k) := by decide +kernel
abbrev cX4_init : ByteArray := prog_6_method_1_code
def yX4_init : MethodName := ⟨RX4, "<init>", "()V"⟩
def RX5 : String := "ClapBank$Reader"
def TX5 : u_T := fun k => match k with
  | 0 => ("ClapBank$Reader", "theatre", "LClapBank$Theatre;", true)
  | 1 => ("ClapBank$Reader", "book", "LClapBank$Book;", true)
  | 2 => ("ClapBank$Reader", "dark", "LClapBank$Dark;", true)
  | 3 => ("ClapBank$Reader", "numbers", "[I", true)
  | 4 => ("ClapBank$Reader", "fault", "I", false)
  | 5 => ("ClapBank$Reader", "place", "I", false)
  | 6 => ("ClapBank$Reader", "token", "I", false)
  | 7 => ("ClapBank$Reader", "from", "I", false)
  | 8 => ("ClapBank$Reader", "to", "I", false)
  | _ => ("ClapBank$Reader", "value", "I", false)
def tyX5 : Nat → FieldType := fun k => match k with
  | 0 => .object "ClapBank$Theatre"
  | 1 => .object "ClapBank$Book"
  | 2 => .object "ClapBank$Dark"
  | 3 => .array .int
  | 4 => .int
  | 5 => .int
  | 6 => .int
  | 7 => .int
  | 8 => .int
  | _ => .int
abbrev wsX50 : List Cond := u_ws RX5 TX5 10
theorem nmX5 : ∀ a, a < 10 → ∀ b, b < 10 → a ≠ b → (TX5 a).2.1 ≠ (TX5 b).2.1 := by decide +kernel
theorem tyX5_ok : ∀ k, k < 10 → parseFieldDescriptor (TX5 k).2.2.1 = some (tyX5 k) := by decide +kernel
abbrev cX5_init : ByteArray := prog_7_method_1_code
def yX5_init : MethodName := ⟨RX5, "<init>", "()V"⟩
def RX6 : String := "ClapBank$Rounds"
def TX6 : u_T := fun k => match k with
  | 0 => ("ClapBank$Rounds", "usurers", "I", false)
  | 1 => ("ClapBank$Rounds", "borrowers", "I", false)
  | 2 => ("ClapBank$Rounds", "period", "I", false)
  | 3 => ("ClapBank$Rounds", "asks", "[I", true)
  | 4 => ("ClapBank$Rounds", "floors", "[I", true)
  | 5 => ("ClapBank$Rounds", "gains", "[I", true)
  | _ => ("ClapBank$Rounds", "seen", "[I", true)
def tyX6 : Nat → FieldType := fun k => match k with
  | 0 => .int
  | 1 => .int
  | 2 => .int
  | 3 => .array .int
  | 4 => .array .int
  | 5 => .array .int
  | _ => .array .int
abbrev wsX60 : List Cond := u_ws RX6 TX6 7
theorem nmX6 : ∀ a, a < 7 → ∀ b, b < 7 → a ≠ b → (TX6 a).2.1 ≠ (TX6 b).2.1 := by decide +kernel
theorem tyX6_ok : ∀ k, k < 7 → parseFieldDescriptor (TX6 k).2.2.1 = some (tyX6 k) := by decide +kernel
abbrev cX6_init : ByteArray := prog_8_method_1_code
def yX6_init : MethodName := ⟨RX6, "<init>", "()V"⟩
def RX7 : String := "ClapBank$Theatre"
def TX7 : u_T := fun k => match k with
  | 0 => ("ClapBank$Theatre", "palms", "I", false)
  | 1 => ("ClapBank$Theatre", "claps", "[I", true)
  | 2 => ("ClapBank$Theatre", "hands", "[I", true)
  | 3 => ("ClapBank$Theatre", "actors", "I", false)
  | 4 => ("ClapBank$Theatre", "hunger", "[I", true)
  | 5 => ("ClapBank$Theatre", "saved", "[I", true)
  | 6 => ("ClapBank$Theatre", "usurers", "I", false)
  | 7 => ("ClapBank$Theatre", "asks", "[I", true)
  | 8 => ("ClapBank$Theatre", "floors", "[I", true)
  | 9 => ("ClapBank$Theatre", "rate", "I", false)
  | 10 => ("ClapBank$Theatre", "chest", "I", false)
  | _ => ("ClapBank$Theatre", "borrowers", "I", false)
def tyX7 : Nat → FieldType := fun k => match k with
  | 0 => .int
  | 1 => .array .int
  | 2 => .array .int
  | 3 => .int
  | 4 => .array .int
  | 5 => .array .int
  | 6 => .int
  | 7 => .array .int
  | 8 => .array .int
  | 9 => .int
  | 10 => .int
  | _ => .int
abbrev wsX70 : List Cond := u_ws RX7 TX7 12
theorem nmX7 : ∀ a, a < 12 → ∀ b, b < 12 → a ≠ b → (TX7 a).2.1 ≠ (TX7 b).2.1 := by decide +kernel
theorem tyX7_ok : ∀ k, k < 12 → parseFieldDescriptor (TX7 k).2.2.1 = some (tyX7 k) := by decide +kernel
abbrev cX7_init : ByteArray := prog_9_method_1_code
def yX7_init : MethodName := ⟨RX7, "<init>", "()V"⟩
def RX8 : String := "ClapBank$Told"
def TX8 : u_T := fun k => match k with
  | 0 => ("ClapBank$Told", "tape", "[B", true)
  | 1 => ("ClapBank$Told", "length", "I", false)
  | 2 => ("ClapBank$Told", "fault", "I", false)
  | 3 => ("ClapBank$Told", "place", "I", false)
  | 4 => ("ClapBank$Told", "theatres", "I", false)
  | 5 => ("ClapBank$Told", "books", "I", false)
  | 6 => ("ClapBank$Told", "darks", "I", false)
  | 7 => ("ClapBank$Told", "firstTheatre", "LClapBank$Theatre;", true)
  | 8 => ("ClapBank$Told", "secondTheatre", "LClapBank$Theatre;", true)
  | 9 => ("ClapBank$Told", "firstBook", "LClapBank$Book;", true)
  | 10 => ("ClapBank$Told", "secondBook", "LClapBank$Book;", true)
  | 11 => ("ClapBank$Told", "firstDark", "LClapBank$Dark;", true)
  | _ => ("ClapBank$Told", "secondDark", "LClapBank$Dark;", true)
def tyX8 : Nat → FieldType := fun k => match k with
  | 0 => .array .byte
  | 1 => .int
  | 2 => .int
  | 3 => .int
  | 4 => .int
  | 5 => .int
  | 6 => .int
  | 7 => .object "ClapBank$Theatre"
  | 8 => .object "ClapBank$Theatre"
  | 9 => .object "ClapBank$Book"
  | 10 => .object "ClapBank$Book"
  | 11 => .object "ClapBank$Dark"
  | _ => .object "ClapBank$Dark"
abbrev wsX80 : List Cond := u_ws RX8 TX8 13
theorem nmX8 : ∀ a, a < 13 → ∀ b, b < 13 → a ≠ b → (TX8 a).2.1 ≠ (TX8 b).2.1 := by decide +kernel
theorem tyX8_ok : ∀ k, k < 13 → parseFieldDescriptor (TX8 k).2.2.1 = some (tyX8 k) := by decide +kernel
abbrev cX8_init : ByteArray := prog_10_method_1_code
def yX8_init : MethodName := ⟨RX8, "<init>", "()V"⟩
def RX9 : String := "ClapBank"
def TX9 : u_T := fun k => match k with
  | 0 => ("ClapBank", "told", "LClapBank$Told;", true)
  | 1 => ("ClapBank", "images", "[LClapBank$Told;", true)
  | 2 => ("ClapBank", "reader", "LClapBank$Reader;", true)
  | 3 => ("ClapBank", "evening", "LClapBank$Evening;", true)
  | 4 => ("ClapBank", "table", "LClapBank$Feast;", true)
  | 5 => ("ClapBank", "rounds", "LClapBank$Rounds;", true)
  | _ => ("ClapBank", "hearing", "LClapBank$Hearing;", true)
def tyX9 : Nat → FieldType := fun k => match k with
  | 0 => .object "ClapBank$Told"
  | 1 => .array (.object "ClapBank$Told")
  | 2 => .object "ClapBank$Reader"
  | 3 => .object "ClapBank$Evening"
  | 4 => .object "ClapBank$Feast"
  | 5 => .object "ClapBank$Rounds"
  | _ => .object "ClapBank$Hearing"
def RX10 : String := "ClapBankModel"
def TX10 : u_T := fun k => match k with
  | 0 => ("ClapBankModel", "code", "I", false)
  | 1 => ("ClapBankModel", "tape", "[B", true)
  | 2 => ("ClapBankModel", "size", "[I", true)
  | 3 => ("ClapBankModel", "fault", "[I", true)
  | 4 => ("ClapBankModel", "faultPlace", "[I", true)
  | 5 => ("ClapBankModel", "many", "[I", true)
  | 6 => ("ClapBankModel", "theatres", "[I", true)
  | 7 => ("ClapBankModel", "books", "[I", true)
  | 8 => ("ClapBankModel", "darks", "[I", true)
  | 9 => ("ClapBankModel", "reached", "I", false)
  | 10 => ("ClapBankModel", "length", "I", false)
  | 11 => ("ClapBankModel", "begins", "I", false)
  | 12 => ("ClapBankModel", "sort", "I", false)
  | 13 => ("ClapBankModel", "value", "I", false)
  | 14 => ("ClapBankModel", "word", "J", false)
  | 15 => ("ClapBankModel", "wrongAt", "I", false)
  | 16 => ("ClapBankModel", "laterFault", "I", false)
  | 17 => ("ClapBankModel", "laterPlace", "I", false)
  | 18 => ("ClapBankModel", "told", "[I", true)
  | 19 => ("ClapBankModel", "read", "[I", true)
  | 20 => ("ClapBankModel", "theatre", "I", false)
  | 21 => ("ClapBankModel", "palms", "I", false)
  | 22 => ("ClapBankModel", "actors", "I", false)
  | 23 => ("ClapBankModel", "rate", "I", false)
  | 24 => ("ClapBankModel", "book", "I", false)
  | 25 => ("ClapBankModel", "chest", "I", false)
  | 26 => ("ClapBankModel", "encores", "I", false)
  | 27 => ("ClapBankModel", "nights", "I", false)
  | 28 => ("ClapBankModel", "lives", "I", false)
  | 29 => ("ClapBankModel", "hushed", "I", false)
  | 30 => ("ClapBankModel", "claps", "I", false)
  | 31 => ("ClapBankModel", "echoFor", "I", false)
  | 32 => ("ClapBankModel", "left", "[I", true)
  | 33 => ("ClapBankModel", "owes", "[I", true)
  | 34 => ("ClapBankModel", "got", "[I", true)
  | 35 => ("ClapBankModel", "saved", "[I", true)
  | 36 => ("ClapBankModel", "storms", "[I", true)
  | 37 => ("ClapBankModel", "starved", "[I", true)
  | 38 => ("ClapBankModel", "capped", "Z", false)
  | 39 => ("ClapBankModel", "twoHands", "I", false)
  | 40 => ("ClapBankModel", "oneHand", "I", false)
  | 41 => ("ClapBankModel", "asks", "[I", true)
  | 42 => ("ClapBankModel", "wentTo", "[I", true)
  | 43 => ("ClapBankModel", "dark", "I", false)
  | 44 => ("ClapBankModel", "minutes", "I", false)
  | 45 => ("ClapBankModel", "ahead", "[J", true)
  | 46 => ("ClapBankModel", "behind", "[J", true)
  | 47 => ("ClapBankModel", "unit", "[I", true)
  | 48 => ("ClapBankModel", "seed", "I", false)
  | _ => ("ClapBankModel", "kept", "[Z", true)
def tyX10 : Nat → FieldType := fun k => match k with
  | 0 => .int
  | 1 => .array .byte
  | 2 => .array .int
  | 3 => .array .int
  | 4 => .array .int
  | 5 => .array .int
  | 6 => .array .int
  | 7 => .array .int
  | 8 => .array .int
  | 9 => .int
  | 10 => .int
  | 11 => .int
  | 12 => .int
  | 13 => .int
  | 14 => .long
  | 15 => .int
  | 16 => .int
  | 17 => .int
  | 18 => .array .int
  | 19 => .array .int
  | 20 => .int
  | 21 => .int
  | 22 => .int
  | 23 => .int
  | 24 => .int
  | 25 => .int
  | 26 => .int
  | 27 => .int
  | 28 => .int
  | 29 => .int
  | 30 => .int
  | 31 => .int
  | 32 => .array .int
  | 33 => .array .int
  | 34 => .array .int
  | 35 => .array .int
  | 36 => .array .int
  | 37 => .array .int
  | 38 => .boolean
  | 39 => .int
  | 40 => .int
  | 41 => .array .int
  | 42 => .array .int
  | 43 => .int
  | 44 => .int
  | 45 => .array .long
  | 46 => .array .long
  | 47 => .array .int
  | 48 => .int
  | _ => .array .boolean
def wsX0_init : List Cond := .code yX0_init cX0_init 1 none :: ([.methodLink RX0 3 objectInit, .instanceMethod objectInit, .code objectInit ⟨#[0xb1]⟩ 1 none, .arrayClass .int, .fieldLink RX0 9 "ClapBank$Book" "parts" "[I"] ++ wsX00)
def wsX1_init : List Cond := .code yX1_init cX1_init 1 none :: ([.methodLink RX1 3 objectInit, .instanceMethod objectInit, .code objectInit ⟨#[0xb1]⟩ 1 none, .arrayClass .int, .fieldLink RX1 9 "ClapBank$Dark" "halves" "[I"] ++ wsX10)
def wsX7_init : List Cond := .code yX7_init cX7_init 1 none :: ([.methodLink RX7 3 objectInit, .instanceMethod objectInit, .code objectInit ⟨#[0xb1]⟩ 1 none, .arrayClass .int, .fieldLink RX7 9 "ClapBank$Theatre" "claps" "[I", .fieldLink RX7 15 "ClapBank$Theatre" "hands" "[I", .fieldLink RX7 18 "ClapBank$Theatre" "hunger" "[I", .fieldLink RX7 21 "ClapBank$Theatre" "saved" "[I", .fieldLink RX7 24 "ClapBank$Theatre" "asks" "[I", .fieldLink RX7 27 "ClapBank$Theatre" "floors" "[I"] ++ wsX70)
def wsX2_init : List Cond := .code yX2_init cX2_init 1 none :: ([.methodLink RX2 3 objectInit, .instanceMethod objectInit, .code objectInit ⟨#[0xb1]⟩ 1 none, .classLink RX2 9 RX7, .instantiable RX7 12, .initialized RX7, .fieldLink RX2 12 "ClapBank$Evening" "house" "LClapBank$Theatre;", .arrayClass .int, .fieldLink RX2 18 "ClapBank$Evening" "left" "[I", .fieldLink RX2 22 "ClapBank$Evening" "owes" "[I", .fieldLink RX2 25 "ClapBank$Evening" "got" "[I", .fieldLink RX2 28 "ClapBank$Evening" "saved" "[I", .fieldLink RX2 31 "ClapBank$Evening" "starved" "[I", .fieldLink RX2 34 "ClapBank$Evening" "storms" "[I", .fieldLink RX2 37 "ClapBank$Evening" "drawnFrom" "[I", .instanceMethod yX7_init, .code yX7_init cX7_init 1 none, .methodLink RX7 3 objectInit, .fieldLink RX7 9 "ClapBank$Theatre" "claps" "[I", .fieldLink RX7 15 "ClapBank$Theatre" "hands" "[I", .fieldLink RX7 18 "ClapBank$Theatre" "hunger" "[I", .fieldLink RX7 21 "ClapBank$Theatre" "saved" "[I", .fieldLink RX7 24 "ClapBank$Theatre" "asks" "[I", .fieldLink RX7 27 "ClapBank$Theatre" "floors" "[I"] ++ wsX70 ++ wsX20)
def wsX3_init : List Cond := .code yX3_init cX3_init 1 none :: ([.methodLink RX3 3 objectInit, .instanceMethod objectInit, .code objectInit ⟨#[0xb1]⟩ 1 none])
def wsX4_init_r1 : List Cond := [Cond.methodLink RX4 3 objectInit, Cond.instanceMethod objectInit, Cond.code objectInit ⟨#[0xb1]⟩ 1 none, Cond.classLink RX4 9 RX7, Cond.instantiable RX7 12, Cond.initialized RX7, Cond.fieldLink RX4 12 "ClapBank$Hearing" "house" "LClapBank$Theatre;", Cond.classLink RX4 18 RX1, Cond.instantiable RX1 2, Cond.initialized RX1, Cond.fieldLink RX4 21 "ClapBank$Hearing" "dark" "LClapBank$Dark;", Cond.arrayClass .int, Cond.fieldLink RX4 25 "ClapBank$Hearing" "early" "[I", Cond.fieldLink RX4 29 "ClapBank$Hearing" "late" "[I", Cond.fieldLink RX4 32 "ClapBank$Hearing" "halvesOf" "[I", Cond.fieldLink RX4 35 "ClapBank$Hearing" "onceOf" "[I", Cond.instanceMethod yX7_init, Cond.code yX7_init cX7_init 1 none, Cond.methodLink RX7 3 objectInit, Cond.fieldLink RX7 9 "ClapBank$Theatre" "claps" "[I", Cond.fieldLink RX7 15 "ClapBank$Theatre" "hands" "[I", Cond.fieldLink RX7 18 "ClapBank$Theatre" "hunger" "[I", Cond.fieldLink RX7 21 "ClapBank$Theatre" "saved" "[I", Cond.fieldLink RX7 24 "ClapBank$Theatre" "asks" "[I"]
def wsX4_init_r2 : List Cond := [Cond.fieldLink RX7 27 "ClapBank$Theatre" "floors" "[I", Cond.instanceMethod yX1_init, Cond.code yX1_init cX1_init 1 none, Cond.methodLink RX1 3 objectInit, Cond.fieldLink RX1 9 "ClapBank$Dark" "halves" "[I"]
def wsX4_init : List Cond := .code yX4_init cX4_init 1 none :: ((wsX4_init_r1 ++ wsX4_init_r2) ++ wsX70 ++ wsX40 ++ wsX10)
def wsX5_init_r1 : List Cond := [Cond.methodLink RX5 3 objectInit, Cond.instanceMethod objectInit, Cond.code objectInit ⟨#[0xb1]⟩ 1 none, Cond.classLink RX5 9 RX7, Cond.instantiable RX7 12, Cond.initialized RX7, Cond.fieldLink RX5 12 "ClapBank$Reader" "theatre" "LClapBank$Theatre;", Cond.classLink RX5 18 RX0, Cond.instantiable RX0 2, Cond.initialized RX0, Cond.fieldLink RX5 21 "ClapBank$Reader" "book" "LClapBank$Book;", Cond.classLink RX5 25 RX1, Cond.instantiable RX1 2, Cond.initialized RX1, Cond.fieldLink RX5 28 "ClapBank$Reader" "dark" "LClapBank$Dark;", Cond.arrayClass .int, Cond.fieldLink RX5 32 "ClapBank$Reader" "numbers" "[I", Cond.instanceMethod yX7_init, Cond.code yX7_init cX7_init 1 none, Cond.methodLink RX7 3 objectInit, Cond.fieldLink RX7 9 "ClapBank$Theatre" "claps" "[I", Cond.fieldLink RX7 15 "ClapBank$Theatre" "hands" "[I", Cond.fieldLink RX7 18 "ClapBank$Theatre" "hunger" "[I", Cond.fieldLink RX7 21 "ClapBank$Theatre" "saved" "[I"]
def wsX5_init_r2 : List Cond := [Cond.fieldLink RX7 24 "ClapBank$Theatre" "asks" "[I", Cond.fieldLink RX7 27 "ClapBank$Theatre" "floors" "[I", Cond.instanceMethod yX0_init, Cond.code yX0_init cX0_init 1 none, Cond.methodLink RX0 3 objectInit, Cond.fieldLink RX0 9 "ClapBank$Book" "parts" "[I", Cond.instanceMethod yX1_init, Cond.code yX1_init cX1_init 1 none, Cond.methodLink RX1 3 objectInit, Cond.fieldLink RX1 9 "ClapBank$Dark" "halves" "[I"]
def wsX5_init : List Cond := .code yX5_init cX5_init 1 none :: ((wsX5_init_r1 ++ wsX5_init_r2) ++ wsX70 ++ wsX50 ++ wsX00 ++ wsX10)
def wsX6_init : List Cond := .code yX6_init cX6_init 1 none :: ([.methodLink RX6 3 objectInit, .instanceMethod objectInit, .code objectInit ⟨#[0xb1]⟩ 1 none, .arrayClass .int, .fieldLink RX6 9 "ClapBank$Rounds" "asks" "[I", .fieldLink RX6 15 "ClapBank$Rounds" "floors" "[I", .fieldLink RX6 18 "ClapBank$Rounds" "gains" "[I", .fieldLink RX6 21 "ClapBank$Rounds" "seen" "[I"] ++ wsX60)
def wsX8_init_r1 : List Cond := [Cond.methodLink RX8 3 objectInit, Cond.instanceMethod objectInit, Cond.code objectInit ⟨#[0xb1]⟩ 1 none, Cond.arrayClass .byte, Cond.fieldLink RX8 9 "ClapBank$Told" "tape" "[B", Cond.fieldLink RX8 15 "ClapBank$Told" "place" "I", Cond.classLink RX8 19 RX7, Cond.instantiable RX7 12, Cond.initialized RX7, Cond.fieldLink RX8 22 "ClapBank$Told" "firstTheatre" "LClapBank$Theatre;", Cond.fieldLink RX8 26 "ClapBank$Told" "secondTheatre" "LClapBank$Theatre;", Cond.classLink RX8 29 RX0, Cond.instantiable RX0 2, Cond.initialized RX0, Cond.fieldLink RX8 32 "ClapBank$Told" "firstBook" "LClapBank$Book;", Cond.fieldLink RX8 36 "ClapBank$Told" "secondBook" "LClapBank$Book;", Cond.classLink RX8 39 RX1, Cond.instantiable RX1 2, Cond.initialized RX1, Cond.fieldLink RX8 42 "ClapBank$Told" "firstDark" "LClapBank$Dark;", Cond.fieldLink RX8 46 "ClapBank$Told" "secondDark" "LClapBank$Dark;", Cond.instanceMethod yX7_init, Cond.code yX7_init cX7_init 1 none, Cond.methodLink RX7 3 objectInit]
def wsX8_init_r2 : List Cond := [Cond.arrayClass .int, Cond.fieldLink RX7 9 "ClapBank$Theatre" "claps" "[I", Cond.fieldLink RX7 15 "ClapBank$Theatre" "hands" "[I", Cond.fieldLink RX7 18 "ClapBank$Theatre" "hunger" "[I", Cond.fieldLink RX7 21 "ClapBank$Theatre" "saved" "[I", Cond.fieldLink RX7 24 "ClapBank$Theatre" "asks" "[I", Cond.fieldLink RX7 27 "ClapBank$Theatre" "floors" "[I", Cond.instanceMethod yX0_init, Cond.code yX0_init cX0_init 1 none, Cond.methodLink RX0 3 objectInit, Cond.fieldLink RX0 9 "ClapBank$Book" "parts" "[I", Cond.instanceMethod yX1_init, Cond.code yX1_init cX1_init 1 none, Cond.methodLink RX1 3 objectInit, Cond.fieldLink RX1 9 "ClapBank$Dark" "halves" "[I"]
def wsX8_init : List Cond := .code yX8_init cX8_init 1 none :: ((wsX8_init_r1 ++ wsX8_init_r2) ++ wsX80 ++ wsX70 ++ wsX00 ++ wsX10)
theorem dX0_init_0 : decode cX0_init 0 = .ok (.aload_n 0, 1) := by decide +kernel
theorem dX0_init_1 : decode cX0_init 1 = .ok (.invokespecial 3, 3) := by decide +kernel
theorem dX0_init_4 : decode cX0_init 4 = .ok (.aload_n 0, 1) := by decide +kernel
theorem dX0_init_5 : decode cX0_init 5 = .ok (.bipush 120, 2) := by decide +kernel
theorem dX0_init_7 : decode cX0_init 7 = .ok (.newarray .int, 2) := by decide +kernel
theorem dX0_init_9 : decode cX0_init 9 = .ok (.putfield 9, 3) := by decide +kernel
theorem dX0_init_12 : decode cX0_init 12 = .ok (.return_, 1) := by decide +kernel
theorem dX1_init_0 : decode cX1_init 0 = .ok (.aload_n 0, 1) := by decide +kernel
theorem dX1_init_1 : decode cX1_init 1 = .ok (.invokespecial 3, 3) := by decide +kernel
theorem dX1_init_4 : decode cX1_init 4 = .ok (.aload_n 0, 1) := by decide +kernel
theorem dX1_init_5 : decode cX1_init 5 = .ok (.bipush 6, 2) := by decide +kernel
theorem dX1_init_7 : decode cX1_init 7 = .ok (.newarray .int, 2) := by decide +kernel
theorem dX1_init_9 : decode cX1_init 9 = .ok (.putfield 9, 3) := by decide +kernel
theorem dX1_init_12 : decode cX1_init 12 = .ok (.return_, 1) := by decide +kernel
set_option maxRecDepth 20000 in
theorem ggX2_init_X7_init : GoodIn wsX2_init wsX7_init := goodIn_r _ [17, 18, 2, 3, 8, 19, 20, 21, 22, 23, 24, 25, 26, 27, 28, 29, 30, 31, 32, 33, 34, 35, 36] (by decide +kernel) (by decide +kernel)
set_option maxRecDepth 20000 in
theorem gX2_init_X7_init_n11 : GoodIn wsX2_init (wsX7_init) := ggX2_init_X7_init
theorem dX2_init_0 : decode cX2_init 0 = .ok (.aload_n 0, 1) := by decide +kernel
theorem dX2_init_1 : decode cX2_init 1 = .ok (.invokespecial 3, 3) := by decide +kernel
theorem dX2_init_4 : decode cX2_init 4 = .ok (.aload_n 0, 1) := by decide +kernel
theorem dX2_init_5 : decode cX2_init 5 = .ok (.new 9, 3) := by decide +kernel
theorem dX2_init_8 : decode cX2_init 8 = .ok (.dup, 1) := by decide +kernel
theorem dX2_init_9 : decode cX2_init 9 = .ok (.invokespecial 11, 3) := by decide +kernel
theorem dX2_init_12 : decode cX2_init 12 = .ok (.putfield 12, 3) := by decide +kernel
theorem dX2_init_15 : decode cX2_init 15 = .ok (.aload_n 0, 1) := by decide +kernel
theorem dX2_init_16 : decode cX2_init 16 = .ok (.iconst 5, 1) := by decide +kernel
theorem dX2_init_17 : decode cX2_init 17 = .ok (.newarray .int, 2) := by decide +kernel
theorem dX2_init_19 : decode cX2_init 19 = .ok (.putfield 18, 3) := by decide +kernel
theorem dX2_init_22 : decode cX2_init 22 = .ok (.aload_n 0, 1) := by decide +kernel
theorem dX2_init_23 : decode cX2_init 23 = .ok (.bipush 25, 2) := by decide +kernel
theorem dX2_init_25 : decode cX2_init 25 = .ok (.newarray .int, 2) := by decide +kernel
theorem dX2_init_27 : decode cX2_init 27 = .ok (.putfield 22, 3) := by decide +kernel
theorem dX2_init_30 : decode cX2_init 30 = .ok (.aload_n 0, 1) := by decide +kernel
theorem dX2_init_31 : decode cX2_init 31 = .ok (.bipush 30, 2) := by decide +kernel
theorem dX2_init_33 : decode cX2_init 33 = .ok (.newarray .int, 2) := by decide +kernel
theorem dX2_init_35 : decode cX2_init 35 = .ok (.putfield 25, 3) := by decide +kernel
theorem dX2_init_38 : decode cX2_init 38 = .ok (.aload_n 0, 1) := by decide +kernel
theorem dX2_init_39 : decode cX2_init 39 = .ok (.bipush 6, 2) := by decide +kernel
theorem dX2_init_41 : decode cX2_init 41 = .ok (.newarray .int, 2) := by decide +kernel
theorem dX2_init_43 : decode cX2_init 43 = .ok (.putfield 28, 3) := by decide +kernel
theorem dX2_init_46 : decode cX2_init 46 = .ok (.aload_n 0, 1) := by decide +kernel
theorem dX2_init_47 : decode cX2_init 47 = .ok (.bipush 6, 2) := by decide +kernel
theorem dX2_init_49 : decode cX2_init 49 = .ok (.newarray .int, 2) := by decide +kernel
theorem dX2_init_51 : decode cX2_init 51 = .ok (.putfield 31, 3) := by decide +kernel
theorem dX2_init_54 : decode cX2_init 54 = .ok (.aload_n 0, 1) := by decide +kernel
theorem dX2_init_55 : decode cX2_init 55 = .ok (.bipush 6, 2) := by decide +kernel
theorem dX2_init_57 : decode cX2_init 57 = .ok (.newarray .int, 2) := by decide +kernel
theorem dX2_init_59 : decode cX2_init 59 = .ok (.putfield 34, 3) := by decide +kernel
theorem dX2_init_62 : decode cX2_init 62 = .ok (.aload_n 0, 1) := by decide +kernel
theorem dX2_init_63 : decode cX2_init 63 = .ok (.bipush 6, 2) := by decide +kernel
theorem dX2_init_65 : decode cX2_init 65 = .ok (.newarray .int, 2) := by decide +kernel
theorem dX2_init_67 : decode cX2_init 67 = .ok (.putfield 37, 3) := by decide +kernel
theorem dX2_init_70 : decode cX2_init 70 = .ok (.return_, 1) := by decide +kernel
theorem dX3_init_0 : decode cX3_init 0 = .ok (.aload_n 0, 1) := by decide +kernel
theorem dX3_init_1 : decode cX3_init 1 = .ok (.invokespecial 3, 3) := by decide +kernel
theorem dX3_init_4 : decode cX3_init 4 = .ok (.return_, 1) := by decide +kernel
set_option maxRecDepth 20000 in
theorem ggX4_init_X7_init : GoodIn wsX4_init wsX7_init := goodIn_r _ [18, 19, 2, 3, 12, 20, 21, 22, 23, 24, 25, 30, 31, 32, 33, 34, 35, 36, 37, 38, 39, 40, 41] (by decide +kernel) (by decide +kernel)
set_option maxRecDepth 20000 in
theorem gX4_init_X7_init_n11 : GoodIn wsX4_init (wsX7_init) := ggX4_init_X7_init
set_option maxRecDepth 20000 in
theorem ggX4_init_X1_init : GoodIn wsX4_init wsX1_init := goodIn_r _ [27, 28, 2, 3, 12, 29, 51, 52] (by decide +kernel) (by decide +kernel)
set_option maxRecDepth 20000 in
theorem gX4_init_X1_init_n20 : GoodIn wsX4_init (wsX1_init) := ggX4_init_X1_init
theorem dX4_init_0 : decode cX4_init 0 = .ok (.aload_n 0, 1) := by decide +kernel
theorem dX4_init_1 : decode cX4_init 1 = .ok (.invokespecial 3, 3) := by decide +kernel
theorem dX4_init_4 : decode cX4_init 4 = .ok (.aload_n 0, 1) := by decide +kernel
theorem dX4_init_5 : decode cX4_init 5 = .ok (.new 9, 3) := by decide +kernel
theorem dX4_init_8 : decode cX4_init 8 = .ok (.dup, 1) := by decide +kernel
theorem dX4_init_9 : decode cX4_init 9 = .ok (.invokespecial 11, 3) := by decide +kernel
theorem dX4_init_12 : decode cX4_init 12 = .ok (.putfield 12, 3) := by decide +kernel
theorem dX4_init_15 : decode cX4_init 15 = .ok (.aload_n 0, 1) := by decide +kernel
theorem dX4_init_16 : decode cX4_init 16 = .ok (.new 18, 3) := by decide +kernel
theorem dX4_init_19 : decode cX4_init 19 = .ok (.dup, 1) := by decide +kernel
theorem dX4_init_20 : decode cX4_init 20 = .ok (.invokespecial 20, 3) := by decide +kernel
theorem dX4_init_23 : decode cX4_init 23 = .ok (.putfield 21, 3) := by decide +kernel
theorem dX4_init_26 : decode cX4_init 26 = .ok (.aload_n 0, 1) := by decide +kernel
theorem dX4_init_27 : decode cX4_init 27 = .ok (.sipush 1024, 3) := by decide +kernel
theorem dX4_init_30 : decode cX4_init 30 = .ok (.newarray .int, 2) := by decide +kernel
theorem dX4_init_32 : decode cX4_init 32 = .ok (.putfield 25, 3) := by decide +kernel
theorem dX4_init_35 : decode cX4_init 35 = .ok (.aload_n 0, 1) := by decide +kernel
theorem dX4_init_36 : decode cX4_init 36 = .ok (.sipush 1024, 3) := by decide +kernel
theorem dX4_init_39 : decode cX4_init 39 = .ok (.newarray .int, 2) := by decide +kernel
theorem dX4_init_41 : decode cX4_init 41 = .ok (.putfield 29, 3) := by decide +kernel
theorem dX4_init_44 : decode cX4_init 44 = .ok (.aload_n 0, 1) := by decide +kernel
theorem dX4_init_45 : decode cX4_init 45 = .ok (.bipush 32, 2) := by decide +kernel
theorem dX4_init_47 : decode cX4_init 47 = .ok (.newarray .int, 2) := by decide +kernel
theorem dX4_init_49 : decode cX4_init 49 = .ok (.putfield 32, 3) := by decide +kernel
theorem dX4_init_52 : decode cX4_init 52 = .ok (.aload_n 0, 1) := by decide +kernel
theorem dX4_init_53 : decode cX4_init 53 = .ok (.bipush 32, 2) := by decide +kernel
theorem dX4_init_55 : decode cX4_init 55 = .ok (.newarray .int, 2) := by decide +kernel
theorem dX4_init_57 : decode cX4_init 57 = .ok (.putfield 35, 3) := by decide +kernel
theorem dX4_init_60 : decode cX4_init 60 = .ok (.return_, 1) := by decide +kernel
set_option maxRecDepth 20000 in
theorem ggX5_init_X7_init : GoodIn wsX5_init wsX7_init := goodIn_r _ [19, 20, 2, 3, 16, 21, 22, 23, 24, 25, 26, 35, 36, 37, 38, 39, 40, 41, 42, 43, 44, 45, 46] (by decide +kernel) (by decide +kernel)
set_option maxRecDepth 20000 in
theorem gX5_init_X7_init_n11 : GoodIn wsX5_init (wsX7_init) := ggX5_init_X7_init
set_option maxRecDepth 20000 in
theorem ggX5_init_X0_init : GoodIn wsX5_init wsX0_init := goodIn_r _ [28, 29, 2, 3, 16, 30, 57, 58] (by decide +kernel) (by decide +kernel)
set_option maxRecDepth 20000 in
theorem gX5_init_X0_init_n20 : GoodIn wsX5_init (wsX0_init) := ggX5_init_X0_init
set_option maxRecDepth 20000 in
theorem ggX5_init_X1_init : GoodIn wsX5_init wsX1_init := goodIn_r _ [32, 33, 2, 3, 16, 34, 59, 60] (by decide +kernel) (by decide +kernel)
set_option maxRecDepth 20000 in
theorem gX5_init_X1_init_n27 : GoodIn wsX5_init (wsX1_init) := ggX5_init_X1_init
theorem dX5_init_0 : decode cX5_init 0 = .ok (.aload_n 0, 1) := by decide +kernel
theorem dX5_init_1 : decode cX5_init 1 = .ok (.invokespecial 3, 3) := by decide +kernel
theorem dX5_init_4 : decode cX5_init 4 = .ok (.aload_n 0, 1) := by decide +kernel
theorem dX5_init_5 : decode cX5_init 5 = .ok (.new 9, 3) := by decide +kernel
theorem dX5_init_8 : decode cX5_init 8 = .ok (.dup, 1) := by decide +kernel
theorem dX5_init_9 : decode cX5_init 9 = .ok (.invokespecial 11, 3) := by decide +kernel
theorem dX5_init_12 : decode cX5_init 12 = .ok (.putfield 12, 3) := by decide +kernel
theorem dX5_init_15 : decode cX5_init 15 = .ok (.aload_n 0, 1) := by decide +kernel
theorem dX5_init_16 : decode cX5_init 16 = .ok (.new 18, 3) := by decide +kernel
theorem dX5_init_19 : decode cX5_init 19 = .ok (.dup, 1) := by decide +kernel
theorem dX5_init_20 : decode cX5_init 20 = .ok (.invokespecial 20, 3) := by decide +kernel
theorem dX5_init_23 : decode cX5_init 23 = .ok (.putfield 21, 3) := by decide +kernel
theorem dX5_init_26 : decode cX5_init 26 = .ok (.aload_n 0, 1) := by decide +kernel
theorem dX5_init_27 : decode cX5_init 27 = .ok (.new 25, 3) := by decide +kernel
theorem dX5_init_30 : decode cX5_init 30 = .ok (.dup, 1) := by decide +kernel
theorem dX5_init_31 : decode cX5_init 31 = .ok (.invokespecial 27, 3) := by decide +kernel
theorem dX5_init_34 : decode cX5_init 34 = .ok (.putfield 28, 3) := by decide +kernel
theorem dX5_init_37 : decode cX5_init 37 = .ok (.aload_n 0, 1) := by decide +kernel
theorem dX5_init_38 : decode cX5_init 38 = .ok (.iconst 3, 1) := by decide +kernel
theorem dX5_init_39 : decode cX5_init 39 = .ok (.newarray .int, 2) := by decide +kernel
theorem dX5_init_41 : decode cX5_init 41 = .ok (.putfield 32, 3) := by decide +kernel
theorem dX5_init_44 : decode cX5_init 44 = .ok (.return_, 1) := by decide +kernel
theorem dX6_init_0 : decode cX6_init 0 = .ok (.aload_n 0, 1) := by decide +kernel
theorem dX6_init_1 : decode cX6_init 1 = .ok (.invokespecial 3, 3) := by decide +kernel
theorem dX6_init_4 : decode cX6_init 4 = .ok (.aload_n 0, 1) := by decide +kernel
theorem dX6_init_5 : decode cX6_init 5 = .ok (.iconst 4, 1) := by decide +kernel
theorem dX6_init_6 : decode cX6_init 6 = .ok (.newarray .int, 2) := by decide +kernel
theorem dX6_init_8 : decode cX6_init 8 = .ok (.putfield 9, 3) := by decide +kernel
theorem dX6_init_11 : decode cX6_init 11 = .ok (.aload_n 0, 1) := by decide +kernel
theorem dX6_init_12 : decode cX6_init 12 = .ok (.iconst 4, 1) := by decide +kernel
theorem dX6_init_13 : decode cX6_init 13 = .ok (.newarray .int, 2) := by decide +kernel
theorem dX6_init_15 : decode cX6_init 15 = .ok (.putfield 15, 3) := by decide +kernel
theorem dX6_init_18 : decode cX6_init 18 = .ok (.aload_n 0, 1) := by decide +kernel
theorem dX6_init_19 : decode cX6_init 19 = .ok (.iconst 4, 1) := by decide +kernel
theorem dX6_init_20 : decode cX6_init 20 = .ok (.newarray .int, 2) := by decide +kernel
theorem dX6_init_22 : decode cX6_init 22 = .ok (.putfield 18, 3) := by decide +kernel
theorem dX6_init_25 : decode cX6_init 25 = .ok (.aload_n 0, 1) := by decide +kernel
theorem dX6_init_26 : decode cX6_init 26 = .ok (.sipush 201, 3) := by decide +kernel
theorem dX6_init_29 : decode cX6_init 29 = .ok (.newarray .int, 2) := by decide +kernel
theorem dX6_init_31 : decode cX6_init 31 = .ok (.putfield 21, 3) := by decide +kernel
theorem dX6_init_34 : decode cX6_init 34 = .ok (.return_, 1) := by decide +kernel
theorem dX7_init_0 : decode cX7_init 0 = .ok (.aload_n 0, 1) := by decide +kernel
theorem dX7_init_1 : decode cX7_init 1 = .ok (.invokespecial 3, 3) := by decide +kernel
theorem dX7_init_4 : decode cX7_init 4 = .ok (.aload_n 0, 1) := by decide +kernel
theorem dX7_init_5 : decode cX7_init 5 = .ok (.iconst 5, 1) := by decide +kernel
theorem dX7_init_6 : decode cX7_init 6 = .ok (.newarray .int, 2) := by decide +kernel
theorem dX7_init_8 : decode cX7_init 8 = .ok (.putfield 9, 3) := by decide +kernel
theorem dX7_init_11 : decode cX7_init 11 = .ok (.aload_n 0, 1) := by decide +kernel
theorem dX7_init_12 : decode cX7_init 12 = .ok (.iconst 5, 1) := by decide +kernel
theorem dX7_init_13 : decode cX7_init 13 = .ok (.newarray .int, 2) := by decide +kernel
theorem dX7_init_15 : decode cX7_init 15 = .ok (.putfield 15, 3) := by decide +kernel
theorem dX7_init_18 : decode cX7_init 18 = .ok (.aload_n 0, 1) := by decide +kernel
theorem dX7_init_19 : decode cX7_init 19 = .ok (.bipush 6, 2) := by decide +kernel
theorem dX7_init_21 : decode cX7_init 21 = .ok (.newarray .int, 2) := by decide +kernel
theorem dX7_init_23 : decode cX7_init 23 = .ok (.putfield 18, 3) := by decide +kernel
theorem dX7_init_26 : decode cX7_init 26 = .ok (.aload_n 0, 1) := by decide +kernel
theorem dX7_init_27 : decode cX7_init 27 = .ok (.bipush 6, 2) := by decide +kernel
theorem dX7_init_29 : decode cX7_init 29 = .ok (.newarray .int, 2) := by decide +kernel
theorem dX7_init_31 : decode cX7_init 31 = .ok (.putfield 21, 3) := by decide +kernel
theorem dX7_init_34 : decode cX7_init 34 = .ok (.aload_n 0, 1) := by decide +kernel
theorem dX7_init_35 : decode cX7_init 35 = .ok (.iconst 4, 1) := by decide +kernel
theorem dX7_init_36 : decode cX7_init 36 = .ok (.newarray .int, 2) := by decide +kernel
theorem dX7_init_38 : decode cX7_init 38 = .ok (.putfield 24, 3) := by decide +kernel
theorem dX7_init_41 : decode cX7_init 41 = .ok (.aload_n 0, 1) := by decide +kernel
theorem dX7_init_42 : decode cX7_init 42 = .ok (.iconst 4, 1) := by decide +kernel
theorem dX7_init_43 : decode cX7_init 43 = .ok (.newarray .int, 2) := by decide +kernel
theorem dX7_init_45 : decode cX7_init 45 = .ok (.putfield 27, 3) := by decide +kernel
theorem dX7_init_48 : decode cX7_init 48 = .ok (.return_, 1) := by decide +kernel
set_option maxRecDepth 20000 in
theorem ggX8_init_X7_init : GoodIn wsX8_init wsX7_init := goodIn_r _ [23, 24, 2, 3, 25, 26, 27, 28, 29, 30, 31, 53, 54, 55, 56, 57, 58, 59, 60, 61, 62, 63, 64] (by decide +kernel) (by decide +kernel)
set_option maxRecDepth 20000 in
theorem gX8_init_X7_init_n21 : GoodIn wsX8_init (wsX7_init) := ggX8_init_X7_init
set_option maxRecDepth 20000 in
theorem ggX8_init_X0_init : GoodIn wsX8_init wsX0_init := goodIn_r _ [33, 34, 2, 3, 25, 35, 65, 66] (by decide +kernel) (by decide +kernel)
set_option maxRecDepth 20000 in
theorem gX8_init_X0_init_n31 : GoodIn wsX8_init (wsX0_init) := ggX8_init_X0_init
set_option maxRecDepth 20000 in
theorem ggX8_init_X1_init : GoodIn wsX8_init wsX1_init := goodIn_r _ [37, 38, 2, 3, 25, 39, 67, 68] (by decide +kernel) (by decide +kernel)
set_option maxRecDepth 20000 in
theorem gX8_init_X1_init_n41 : GoodIn wsX8_init (wsX1_init) := ggX8_init_X1_init
theorem dX8_init_0 : decode cX8_init 0 = .ok (.aload_n 0, 1) := by decide +kernel
theorem dX8_init_1 : decode cX8_init 1 = .ok (.invokespecial 3, 3) := by decide +kernel
theorem dX8_init_4 : decode cX8_init 4 = .ok (.aload_n 0, 1) := by decide +kernel
theorem dX8_init_5 : decode cX8_init 5 = .ok (.sipush 600, 3) := by decide +kernel
theorem dX8_init_8 : decode cX8_init 8 = .ok (.newarray .byte, 2) := by decide +kernel
theorem dX8_init_10 : decode cX8_init 10 = .ok (.putfield 9, 3) := by decide +kernel
theorem dX8_init_13 : decode cX8_init 13 = .ok (.aload_n 0, 1) := by decide +kernel
theorem dX8_init_14 : decode cX8_init 14 = .ok (.iconst (-1), 1) := by decide +kernel
theorem dX8_init_15 : decode cX8_init 15 = .ok (.putfield 15, 3) := by decide +kernel
theorem dX8_init_18 : decode cX8_init 18 = .ok (.aload_n 0, 1) := by decide +kernel
theorem dX8_init_19 : decode cX8_init 19 = .ok (.new 19, 3) := by decide +kernel
theorem dX8_init_22 : decode cX8_init 22 = .ok (.dup, 1) := by decide +kernel
theorem dX8_init_23 : decode cX8_init 23 = .ok (.invokespecial 21, 3) := by decide +kernel
theorem dX8_init_26 : decode cX8_init 26 = .ok (.putfield 22, 3) := by decide +kernel
theorem dX8_init_29 : decode cX8_init 29 = .ok (.aload_n 0, 1) := by decide +kernel
theorem dX8_init_30 : decode cX8_init 30 = .ok (.new 19, 3) := by decide +kernel
theorem dX8_init_33 : decode cX8_init 33 = .ok (.dup, 1) := by decide +kernel
theorem dX8_init_34 : decode cX8_init 34 = .ok (.invokespecial 21, 3) := by decide +kernel
theorem dX8_init_37 : decode cX8_init 37 = .ok (.putfield 26, 3) := by decide +kernel
theorem dX8_init_40 : decode cX8_init 40 = .ok (.aload_n 0, 1) := by decide +kernel
theorem dX8_init_41 : decode cX8_init 41 = .ok (.new 29, 3) := by decide +kernel
theorem dX8_init_44 : decode cX8_init 44 = .ok (.dup, 1) := by decide +kernel
theorem dX8_init_45 : decode cX8_init 45 = .ok (.invokespecial 31, 3) := by decide +kernel
theorem dX8_init_48 : decode cX8_init 48 = .ok (.putfield 32, 3) := by decide +kernel
theorem dX8_init_51 : decode cX8_init 51 = .ok (.aload_n 0, 1) := by decide +kernel
theorem dX8_init_52 : decode cX8_init 52 = .ok (.new 29, 3) := by decide +kernel
theorem dX8_init_55 : decode cX8_init 55 = .ok (.dup, 1) := by decide +kernel
theorem dX8_init_56 : decode cX8_init 56 = .ok (.invokespecial 31, 3) := by decide +kernel
theorem dX8_init_59 : decode cX8_init 59 = .ok (.putfield 36, 3) := by decide +kernel
theorem dX8_init_62 : decode cX8_init 62 = .ok (.aload_n 0, 1) := by decide +kernel
theorem dX8_init_63 : decode cX8_init 63 = .ok (.new 39, 3) := by decide +kernel
theorem dX8_init_66 : decode cX8_init 66 = .ok (.dup, 1) := by decide +kernel
theorem dX8_init_67 : decode cX8_init 67 = .ok (.invokespecial 41, 3) := by decide +kernel
theorem dX8_init_70 : decode cX8_init 70 = .ok (.putfield 42, 3) := by decide +kernel
theorem dX8_init_73 : decode cX8_init 73 = .ok (.aload_n 0, 1) := by decide +kernel
theorem dX8_init_74 : decode cX8_init 74 = .ok (.new 39, 3) := by decide +kernel
theorem dX8_init_77 : decode cX8_init 77 = .ok (.dup, 1) := by decide +kernel
theorem dX8_init_78 : decode cX8_init 78 = .ok (.invokespecial 41, 3) := by decide +kernel
theorem dX8_init_81 : decode cX8_init 81 = .ok (.putfield 46, 3) := by decide +kernel
theorem dX8_init_84 : decode cX8_init 84 = .ok (.return_, 1) := by decide +kernel
abbrev vwCl : List vw_C := [(RX0, TX0, 2), (RX1, TX1, 2), (RX2, TX2, 14), (RX3, TX3, 3), (RX4, TX4, 9), (RX5, TX5, 10), (RX6, TX6, 7), (RX7, TX7, 12), (RX8, TX8, 13), (RX9, TX9, 7), (RX10, TX10, 50)]