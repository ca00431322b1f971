def sgX2_init : List (List Cond) := [[.code yX2_init cX2_init 2 none], [.methodLink RX2 9 Lib.Math.max.name, .static Lib.Math.max.name, .initialized "java/lang/Math", .code Lib.Math.max.name Lib.Math.max.code 2 (some .int), .arrayClass .char, .fieldLink RX2 15 "Sashwords$Script" "signs" "[C", .instanceMethod yX4_init, .initialized RX4, .code yX4_init cX4_init 1 none, .methodLink RX4 1 objectInit, .instanceMethod objectInit, .code objectInit ⟨#[0xb1]⟩ 1 none], wsX20]
theorem seX2_init : sgX2_init.flatten = wsX2_init := by simp only [sgX2_init, wsX2_init, List.flatten_cons, List.flatten_nil, List.append_assoc, List.append_nil, List.cons_append, List.nil_append]
set_option maxRecDepth 20000 in
theorem ggX2_init_X4_init : GoodIn wsX2_init wsX4_init := goodIn_s seX2_init _ [(1, 8), (1, 9), (1, 10), (1, 11)] (by rfl) (by decide +kernel)
set_option maxRecDepth 20000 in
theorem gX2_init_X4_init_n3 : GoodIn wsX2_init (wsX4_init) := ggX2_init_X4_init
theorem dX2_init_0 : decode cX2_init 0 = .ok (.aload_n 0, 1) := by decide +kernel
theorem dX2_init_1 : decode cX2_init 1 = .ok (.invokespecial 3, 3) := by decide +kernel
theorem dX2_init_4 : decode cX2_init 4 = .ok (.aload_n 0, 1) := by decide +kernel
theorem dX2_init_5 : decode cX2_init 5 = .ok (.iload_n 1, 1) := by decide +kernel
theorem dX2_init_6 : decode cX2_init 6 = .ok (.iconst 0, 1) := by decide +kernel
theorem dX2_init_7 : decode cX2_init 7 = .ok (.invokestatic 9, 3) := by decide +kernel
theorem dX2_init_10 : decode cX2_init 10 = .ok (.newarray .char, 2) := by decide +kernel
theorem dX2_init_12 : decode cX2_init 12 = .ok (.putfield 15, 3) := by decide +kernel
theorem dX2_init_15 : decode cX2_init 15 = .ok (.return_, 1) := by decide +kernel
theorem dX2_size_0 : decode cX2_size 0 = .ok (.aload_n 0, 1) := by decide +kernel
theorem dX2_size_1 : decode cX2_size 1 = .ok (.getfield 21, 3) := by decide +kernel
theorem dX2_size_4 : decode cX2_size 4 = .ok (.ireturn, 1) := by decide +kernel
theorem dX2_at_0 : decode cX2_at 0 = .ok (.iload_n 1, 1) := by decide +kernel
theorem dX2_at_1 : decode cX2_at 1 = .ok (.ifCond .lt 20, 3) := by decide +kernel
theorem dX2_at_4 : decode cX2_at 4 = .ok (.iload_n 1, 1) := by decide +kernel
theorem dX2_at_5 : decode cX2_at 5 = .ok (.aload_n 0, 1) := by decide +kernel
theorem dX2_at_6 : decode cX2_at 6 = .ok (.getfield 21, 3) := by decide +kernel
theorem dX2_at_9 : decode cX2_at 9 = .ok (.if_icmp .ge 12, 3) := by decide +kernel
theorem dX2_at_12 : decode cX2_at 12 = .ok (.iload_n 1, 1) := by decide +kernel
theorem dX2_at_13 : decode cX2_at 13 = .ok (.aload_n 0, 1) := by decide +kernel
theorem dX2_at_14 : decode cX2_at 14 = .ok (.getfield 15, 3) := by decide +kernel
theorem dX2_at_17 : decode cX2_at 17 = .ok (.arraylength, 1) := by decide +kernel
theorem dX2_at_18 : decode cX2_at 18 = .ok (.if_icmp .lt 8, 3) := by decide +kernel
theorem dX2_at_21 : decode cX2_at 21 = .ok (.bipush (-9), 2) := by decide +kernel
theorem dX2_at_23 : decode cX2_at 23 = .ok (.goto 9, 3) := by decide +kernel
theorem dX2_at_26 : decode cX2_at 26 = .ok (.aload_n 0, 1) := by decide +kernel
theorem dX2_at_27 : decode cX2_at 27 = .ok (.getfield 15, 3) := by decide +kernel
theorem dX2_at_30 : decode cX2_at 30 = .ok (.iload_n 1, 1) := by decide +kernel
theorem dX2_at_31 : decode cX2_at 31 = .ok (.caload, 1) := by decide +kernel
theorem dX2_at_32 : decode cX2_at 32 = .ok (.ireturn, 1) := by decide +kernel
theorem dX2_isFull_0 : decode cX2_isFull 0 = .ok (.aload_n 0, 1) := by decide +kernel
theorem dX2_isFull_1 : decode cX2_isFull 1 = .ok (.getfield 21, 3) := by decide +kernel
theorem dX2_isFull_4 : decode cX2_isFull 4 = .ok (.aload_n 0, 1) := by decide +kernel
theorem dX2_isFull_5 : decode cX2_isFull 5 = .ok (.getfield 15, 3) := by decide +kernel
theorem dX2_isFull_8 : decode cX2_isFull 8 = .ok (.arraylength, 1) := by decide +kernel
theorem dX2_isFull_9 : decode cX2_isFull 9 = .ok (.if_icmp .lt 7, 3) := by decide +kernel
theorem dX2_isFull_12 : decode cX2_isFull 12 = .ok (.iconst 1, 1) := by decide +kernel
theorem dX2_isFull_13 : decode cX2_isFull 13 = .ok (.goto 4, 3) := by decide +kernel
theorem dX2_isFull_16 : decode cX2_isFull 16 = .ok (.iconst 0, 1) := by decide +kernel
theorem dX2_isFull_17 : decode cX2_isFull 17 = .ok (.ireturn, 1) := by decide +kernel
theorem dX2_clear_0 : decode cX2_clear 0 = .ok (.aload_n 0, 1) := by decide +kernel
theorem dX2_clear_1 : decode cX2_clear 1 = .ok (.iconst 0, 1) := by decide +kernel
theorem dX2_clear_2 : decode cX2_clear 2 = .ok (.putfield 21, 3) := by decide +kernel
theorem dX2_clear_5 : decode cX2_clear 5 = .ok (.return_, 1) := by decide +kernel
theorem dX2_add_0 : decode cX2_add 0 = .ok (.aload_n 0, 1) := by decide +kernel
theorem dX2_add_1 : decode cX2_add 1 = .ok (.getfield 21, 3) := by decide +kernel
theorem dX2_add_4 : decode cX2_add 4 = .ok (.ifCond .lt 36, 3) := by decide +kernel
theorem dX2_add_7 : decode cX2_add 7 = .ok (.aload_n 0, 1) := by decide +kernel
theorem dX2_add_8 : decode cX2_add 8 = .ok (.getfield 21, 3) := by decide +kernel
theorem dX2_add_11 : decode cX2_add 11 = .ok (.aload_n 0, 1) := by decide +kernel
theorem dX2_add_12 : decode cX2_add 12 = .ok (.getfield 15, 3) := by decide +kernel
theorem dX2_add_15 : decode cX2_add 15 = .ok (.arraylength, 1) := by decide +kernel
theorem dX2_add_16 : decode cX2_add 16 = .ok (.if_icmp .ge 24, 3) := by decide +kernel
theorem dX2_add_19 : decode cX2_add 19 = .ok (.aload_n 0, 1) := by decide +kernel
theorem dX2_add_20 : decode cX2_add 20 = .ok (.getfield 15, 3) := by decide +kernel
theorem dX2_add_23 : decode cX2_add 23 = .ok (.aload_n 0, 1) := by decide +kernel
theorem dX2_add_24 : decode cX2_add 24 = .ok (.getfield 21, 3) := by decide +kernel
theorem dX2_add_27 : decode cX2_add 27 = .ok (.iload_n 1, 1) := by decide +kernel
theorem dX2_add_28 : decode cX2_add 28 = .ok (.i2c, 1) := by decide +kernel
theorem dX2_add_29 : decode cX2_add 29 = .ok (.castore, 1) := by decide +kernel
theorem dX2_add_30 : decode cX2_add 30 = .ok (.aload_n 0, 1) := by decide +kernel
theorem dX2_add_31 : decode cX2_add 31 = .ok (.dup, 1) := by decide +kernel
theorem dX2_add_32 : decode cX2_add 32 = .ok (.getfield 21, 3) := by decide +kernel
theorem dX2_add_35 : decode cX2_add 35 = .ok (.iconst 1, 1) := by decide +kernel
theorem dX2_add_36 : decode cX2_add 36 = .ok (.iadd, 1) := by decide +kernel
theorem dX2_add_37 : decode cX2_add 37 = .ok (.putfield 21, 3) := by decide +kernel
theorem dX2_add_40 : decode cX2_add 40 = .ok (.return_, 1) := by decide +kernel
def sgX2_append : List (List Cond) := [[.code yX2_append cX2_append 4 none], wsX2_append_r1, wsX2_append_r2, wsX20, wsX50]
theorem seX2_append : sgX2_append.flatten = wsX2_append := by simp only [sgX2_append, wsX2_append, List.flatten_cons, List.flatten_nil, List.append_assoc, List.append_nil, List.cons_append, List.nil_append]
set_option maxRecDepth 20000 in
theorem ggX2_append_X2_size : GoodIn wsX2_append wsX2_size := goodIn_s seX2_append _ [(1, 5), (1, 6), (3, 0), (3, 1)] (by rfl) (by decide +kernel)
set_option maxRecDepth 20000 in
theorem gX2_append_X2_size_u25X2 : GoodIn wsX2_append (va_wsU RX2 25 RX2 "Sashwords$Text" ⟨"Sashwords$Text", "size", "()I"⟩ yX2_size wsX2_size) := goodIn_app (goodIn_s seX2_append _ [(1, 0), (1, 1), (1, 2), (1, 3), (1, 4)] (by rfl) (by decide +kernel)) ggX2_append_X2_size
set_option maxRecDepth 20000 in
theorem ggX2_append_X5_size : GoodIn wsX2_append wsX5_size := goodIn_s seX2_append _ [(1, 10), (1, 11), (1, 12), (4, 0), (4, 1), (4, 2), (4, 3), (4, 4), (4, 5)] (by rfl) (by decide +kernel)
set_option maxRecDepth 20000 in
theorem gX2_append_X5_size_u25X5 : GoodIn wsX2_append (va_wsU RX2 25 RX5 "Sashwords$Text" ⟨"Sashwords$Text", "size", "()I"⟩ yX5_size wsX5_size) := goodIn_app (goodIn_s seX2_append _ [(1, 0), (1, 1), (1, 7), (1, 8), (1, 9)] (by rfl) (by decide +kernel)) ggX2_append_X5_size
set_option maxRecDepth 20000 in
theorem ggX2_append_X2_at : GoodIn wsX2_append wsX2_at := goodIn_s seX2_append _ [(1, 17), (1, 6), (1, 18), (3, 0), (3, 1)] (by rfl) (by decide +kernel)
set_option maxRecDepth 20000 in
theorem gX2_append_X2_at_u29X2 : GoodIn wsX2_append (va_wsU RX2 29 RX2 "Sashwords$Text" ⟨"Sashwords$Text", "at", "(I)I"⟩ yX2_at wsX2_at) := goodIn_app (goodIn_s seX2_append _ [(1, 13), (1, 14), (1, 15), (1, 16), (1, 4)] (by rfl) (by decide +kernel)) ggX2_append_X2_at
set_option maxRecDepth 20000 in
theorem ggX2_append_X5_at : GoodIn wsX2_append wsX5_at := goodIn_s seX2_append _ [(1, 21), (1, 11), (1, 12), (1, 22), (1, 23), (2, 0), (1, 9), (2, 1), (2, 2), (2, 3), (4, 0), (4, 1), (4, 2), (4, 3), (4, 4), (4, 5)] (by rfl) (by decide +kernel)
set_option maxRecDepth 20000 in
theorem gX2_append_X5_at_u29X5 : GoodIn wsX2_append (va_wsU RX2 29 RX5 "Sashwords$Text" ⟨"Sashwords$Text", "at", "(I)I"⟩ yX5_at wsX5_at) := goodIn_app (goodIn_s seX2_append _ [(1, 13), (1, 14), (1, 19), (1, 20), (1, 9)] (by rfl) (by decide +kernel)) ggX2_append_X5_at
set_option maxRecDepth 20000 in
theorem ggX2_append_X2_add : GoodIn wsX2_append wsX2_add := goodIn_s seX2_append _ [(2, 7), (1, 6), (1, 18), (3, 0), (3, 1)] (by rfl) (by decide +kernel)
set_option maxRecDepth 20000 in
theorem gX2_append_X2_add : GoodIn wsX2_append (wsV RX2 33 RX2 yX2_add wsX2_add) := goodIn_app (goodIn_s seX2_append _ [(2, 4), (2, 5), (2, 6), (1, 4)] (by rfl) (by decide +kernel)) ggX2_append_X2_add
theorem dX2_append_0 : decode cX2_append 0 = .ok (.aload_n 1, 1) := by decide +kernel
theorem dX2_append_1 : decode cX2_append 1 = .ok (.invokevirtual 25, 3) := by decide +kernel
theorem dX2_append_4 : decode cX2_append 4 = .ok (.istore_n 2, 1) := by decide +kernel
theorem dX2_append_5 : decode cX2_append 5 = .ok (.iconst 0, 1) := by decide +kernel
theorem dX2_append_6 : decode cX2_append 6 = .ok (.istore_n 3, 1) := by decide +kernel
theorem dX2_append_7 : decode cX2_append 7 = .ok (.iload_n 3, 1) := by decide +kernel
theorem dX2_append_8 : decode cX2_append 8 = .ok (.iload_n 2, 1) := by decide +kernel
theorem dX2_append_9 : decode cX2_append 9 = .ok (.if_icmp .ge 18, 3) := by decide +kernel
theorem dX2_append_12 : decode cX2_append 12 = .ok (.aload_n 0, 1) := by decide +kernel
theorem dX2_append_13 : decode cX2_append 13 = .ok (.aload_n 1, 1) := by decide +kernel
theorem dX2_append_14 : decode cX2_append 14 = .ok (.iload_n 3, 1) := by decide +kernel
theorem dX2_append_15 : decode cX2_append 15 = .ok (.invokevirtual 29, 3) := by decide +kernel
theorem dX2_append_18 : decode cX2_append 18 = .ok (.invokevirtual 33, 3) := by decide +kernel
theorem dX2_append_21 : decode cX2_append 21 = .ok (.iinc 3 1, 3) := by decide +kernel
theorem dX2_append_24 : decode cX2_append 24 = .ok (.goto (-17), 3) := by decide +kernel
theorem dX2_append_27 : decode cX2_append 27 = .ok (.return_, 1) := by decide +kernel
def sgX2_becomeText : List (List Cond) := [[.code yX2_becomeText cX2_becomeText 2 none], wsX2_becomeText_r1, wsX2_becomeText_r2, wsX20, wsX50]
theorem seX2_becomeText : sgX2_becomeText.flatten = wsX2_becomeText := by simp only [sgX2_becomeText, wsX2_becomeText, List.flatten_cons, List.flatten_nil, List.append_assoc, List.append_nil, List.cons_append, List.nil_append]
set_option maxRecDepth 20000 in
theorem ggX2_becomeText_X2_clear : GoodIn wsX2_becomeText wsX2_clear := goodIn_s seX2_becomeText _ [(1, 4), (1, 5), (3, 0), (3, 1)] (by rfl) (by decide +kernel)
set_option maxRecDepth 20000 in
theorem gX2_becomeText_X2_clear : GoodIn wsX2_becomeText (wsV RX2 37 RX2 yX2_clear wsX2_clear) := goodIn_app (goodIn_s seX2_becomeText _ [(1, 0), (1, 1), (1, 2), (1, 3)] (by rfl) (by decide +kernel)) ggX2_becomeText_X2_clear
set_option maxRecDepth 20000 in
theorem ggX2_becomeText_X2_append : GoodIn wsX2_becomeText wsX2_append := goodIn_s seX2_becomeText _ [(1, 9), (1, 10), (1, 11), (1, 12), (1, 13), (1, 3), (1, 14), (1, 5), (1, 15), (1, 16), (1, 17), (1, 18), (1, 19), (1, 20), (1, 21), (1, 22), (1, 23), (2, 0), (2, 1), (2, 2), (2, 3), (2, 4), (2, 5), (2, 6), (2, 7), (2, 8), (2, 9), (2, 10), (2, 11), (2, 12), (2, 13), (2, 14), (2, 15), (3, 0), (3, 1), (4, 0), (4, 1), (4, 2), (4, 3), (4, 4), (4, 5)] (by rfl) (by decide +kernel)
set_option maxRecDepth 20000 in
theorem gX2_becomeText_X2_append : GoodIn wsX2_becomeText (wsV RX2 40 RX2 yX2_append wsX2_append) := goodIn_app (goodIn_s seX2_becomeText _ [(1, 6), (1, 7), (1, 8), (1, 3)] (by rfl) (by decide +kernel)) ggX2_becomeText_X2_append
theorem dX2_becomeText_0 : decode cX2_becomeText 0 = .ok (.aload_n 1, 1) := by decide +kernel
theorem dX2_becomeText_1 : decode cX2_becomeText 1 = .ok (.aload_n 0, 1) := by decide +kernel
theorem dX2_becomeText_2 : decode cX2_becomeText 2 = .ok (.if_acmp .eq 12, 3) := by decide +kernel
theorem dX2_becomeText_5 : decode cX2_becomeText 5 = .ok (.aload_n 0, 1) := by decide +kernel
theorem dX2_becomeText_6 : decode cX2_becomeText 6 = .ok (.invokevirtual 37, 3) := by decide +kernel
theorem dX2_becomeText_9 : decode cX2_becomeText 9 = .ok (.aload_n 0, 1) := by decide +kernel
theorem dX2_becomeText_10 : decode cX2_becomeText 10 = .ok (.aload_n 1, 1) := by decide +kernel
theorem dX2_becomeText_11 : decode cX2_becomeText 11 = .ok (.invokevirtual 40, 3) := by decide +kernel
theorem dX2_becomeText_14 : decode cX2_becomeText 14 = .ok (.return_, 1) := by decide +kernel
def sgX2_exchange : List (List Cond) := [[.code yX2_exchange cX2_exchange 4 (some .int)], [.fieldLink RX2 15 "Sashwords$Script" "signs" "[C", .methodLink RX2 44 yX2_at, .instanceMethod yX2_at, .selects RX2 yX2_at yX2_at, .initialized RX2, .code yX2_at cX2_at 2 (some .int), .fieldLink RX2 21 "Sashwords$Script" "length" "I"], wsX20]
theorem seX2_exchange : sgX2_exchange.flatten = wsX2_exchange := by simp only [sgX2_exchange, wsX2_exchange, List.flatten_cons, List.flatten_nil, List.append_assoc, List.append_nil, List.cons_append, List.nil_append]
set_option maxRecDepth 20000 in
theorem ggX2_exchange_X2_at : GoodIn wsX2_exchange wsX2_at := goodIn_s seX2_exchange _ [(1, 5), (1, 6), (1, 0), (2, 0), (2, 1)] (by rfl) (by decide +kernel)
set_option maxRecDepth 20000 in
theorem gX2_exchange_X2_at : GoodIn wsX2_exchange (wsV RX2 44 RX2 yX2_at wsX2_at) := goodIn_app (goodIn_s seX2_exchange _ [(1, 1), (1, 2), (1, 3), (1, 4)] (by rfl) (by decide +kernel)) ggX2_exchange_X2_at
theorem dX2_exchange_0 : decode cX2_exchange 0 = .ok (.aload_n 0, 1) := by decide +kernel
theorem dX2_exchange_1 : decode cX2_exchange 1 = .ok (.iload_n 1, 1) := by decide +kernel
theorem dX2_exchange_2 : decode cX2_exchange 2 = .ok (.invokevirtual 44, 3) := by decide +kernel
theorem dX2_exchange_5 : decode cX2_exchange 5 = .ok (.istore_n 3, 1) := by decide +kernel
theorem dX2_exchange_6 : decode cX2_exchange 6 = .ok (.iload_n 1, 1) := by decide +kernel
theorem dX2_exchange_7 : decode cX2_exchange 7 = .ok (.ifCond .lt 20, 3) := by decide +kernel
theorem dX2_exchange_10 : decode cX2_exchange 10 = .ok (.iload_n 1, 1) := by decide +kernel
theorem dX2_exchange_11 : decode cX2_exchange 11 = .ok (.aload_n 0, 1) := by decide +kernel
theorem dX2_exchange_12 : decode cX2_exchange 12 = .ok (.getfield 15, 3) := by decide +kernel
theorem dX2_exchange_15 : decode cX2_exchange 15 = .ok (.arraylength, 1) := by decide +kernel
theorem dX2_exchange_16 : decode cX2_exchange 16 = .ok (.if_icmp .ge 11, 3) := by decide +kernel
theorem dX2_exchange_19 : decode cX2_exchange 19 = .ok (.aload_n 0, 1) := by decide +kernel
theorem dX2_exchange_20 : decode cX2_exchange 20 = .ok (.getfield 15, 3) := by decide +kernel
theorem dX2_exchange_23 : decode cX2_exchange 23 = .ok (.iload_n 1, 1) := by decide +kernel
theorem dX2_exchange_24 : decode cX2_exchange 24 = .ok (.iload_n 2, 1) := by decide +kernel
theorem dX2_exchange_25 : decode cX2_exchange 25 = .ok (.i2c, 1) := by decide +kernel
theorem dX2_exchange_26 : decode cX2_exchange 26 = .ok (.castore, 1) := by decide +kernel
theorem dX2_exchange_27 : decode cX2_exchange 27 = .ok (.iload_n 3, 1) := by decide +kernel
theorem dX2_exchange_28 : decode cX2_exchange 28 = .ok (.ireturn, 1) := by decide +kernel
def sgX2_turnRound : List (List Cond) := [[.code yX2_turnRound cX2_turnRound 3 none], [.fieldLink RX2 21 "Sashwords$Script" "length" "I", .methodLink RX2 44 yX2_at, .instanceMethod yX2_at, .selects RX2 yX2_at yX2_at, .initialized RX2, .code yX2_at cX2_at 2 (some .int), .fieldLink RX2 15 "Sashwords$Script" "signs" "[C", .methodLink RX2 45 yX2_exchange, .instanceMethod yX2_exchange, .selects RX2 yX2_exchange yX2_exchange, .code yX2_exchange cX2_exchange 4 (some .int)], wsX20]
theorem seX2_turnRound : sgX2_turnRound.flatten = wsX2_turnRound := by simp only [sgX2_turnRound, wsX2_turnRound, List.flatten_cons, List.flatten_nil, List.append_assoc, List.append_nil, List.cons_append, List.nil_append]
set_option maxRecDepth 20000 in
theorem ggX2_turnRound_X2_at : GoodIn wsX2_turnRound wsX2_at := goodIn_s seX2_turnRound _ [(1, 5), (1, 0), (1, 6), (2, 0), (2, 1)] (by rfl) (by decide +kernel)
set_option maxRecDepth 20000 in
theorem gX2_turnRound_X2_at : GoodIn wsX2_turnRound (wsV RX2 44 RX2 yX2_at wsX2_at) := goodIn_app (goodIn_s seX2_turnRound _ [(1, 1), (1, 2), (1, 3), (1, 4)] (by rfl) (by decide +kernel)) ggX2_turnRound_X2_at
set_option maxRecDepth 20000 in
theorem ggX2_turnRound_X2_exchange : GoodIn wsX2_turnRound wsX2_exchange := goodIn_s seX2_turnRound _ [(1, 10), (1, 6), (1, 1), (1, 2), (1, 3), (1, 4), (1, 5), (1, 0), (2, 0), (2, 1)] (by rfl) (by decide +kernel)
set_option maxRecDepth 20000 in
theorem gX2_turnRound_X2_exchange : GoodIn wsX2_turnRound (wsV RX2 45 RX2 yX2_exchange wsX2_exchange) := goodIn_app (goodIn_s seX2_turnRound _ [(1, 7), (1, 8), (1, 9), (1, 4)] (by rfl) (by decide +kernel)) ggX2_turnRound_X2_exchange
theorem dX2_turnRound_0 : decode cX2_turnRound 0 = .ok (.iconst 0, 1) := by decide +kernel
theorem dX2_turnRound_1 : decode cX2_turnRound 1 = .ok (.istore_n 1, 1) := by decide +kernel
theorem dX2_turnRound_2 : decode cX2_turnRound 2 = .ok (.iload_n 1, 1) := by decide +kernel
theorem dX2_turnRound_3 : decode cX2_turnRound 3 = .ok (.aload_n 0, 1) := by decide +kernel
theorem dX2_turnRound_4 : decode cX2_turnRound 4 = .ok (.getfield 21, 3) := by decide +kernel
theorem dX2_turnRound_7 : decode cX2_turnRound 7 = .ok (.iconst 2, 1) := by decide +kernel
theorem dX2_turnRound_8 : decode cX2_turnRound 8 = .ok (.idiv, 1) := by decide +kernel
theorem dX2_turnRound_9 : decode cX2_turnRound 9 = .ok (.if_icmp .ge 34, 3) := by decide +kernel
theorem dX2_turnRound_12 : decode cX2_turnRound 12 = .ok (.aload_n 0, 1) := by decide +kernel
theorem dX2_turnRound_13 : decode cX2_turnRound 13 = .ok (.getfield 21, 3) := by decide +kernel
theorem dX2_turnRound_16 : decode cX2_turnRound 16 = .ok (.iconst 1, 1) := by decide +kernel
theorem dX2_turnRound_17 : decode cX2_turnRound 17 = .ok (.isub, 1) := by decide +kernel
theorem dX2_turnRound_18 : decode cX2_turnRound 18 = .ok (.iload_n 1, 1) := by decide +kernel
theorem dX2_turnRound_19 : decode cX2_turnRound 19 = .ok (.isub, 1) := by decide +kernel
theorem dX2_turnRound_20 : decode cX2_turnRound 20 = .ok (.istore_n 2, 1) := by decide +kernel
theorem dX2_turnRound_21 : decode cX2_turnRound 21 = .ok (.aload_n 0, 1) := by decide +kernel
theorem dX2_turnRound_22 : decode cX2_turnRound 22 = .ok (.iload_n 2, 1) := by decide +kernel
theorem dX2_turnRound_23 : decode cX2_turnRound 23 = .ok (.aload_n 0, 1) := by decide +kernel
theorem dX2_turnRound_24 : decode cX2_turnRound 24 = .ok (.iload_n 1, 1) := by decide +kernel
theorem dX2_turnRound_25 : decode cX2_turnRound 25 = .ok (.aload_n 0, 1) := by decide +kernel
theorem dX2_turnRound_26 : decode cX2_turnRound 26 = .ok (.iload_n 2, 1) := by decide +kernel
theorem dX2_turnRound_27 : decode cX2_turnRound 27 = .ok (.invokevirtual 44, 3) := by decide +kernel
theorem dX2_turnRound_30 : decode cX2_turnRound 30 = .ok (.invokevirtual 45, 3) := by decide +kernel
theorem dX2_turnRound_33 : decode cX2_turnRound 33 = .ok (.invokevirtual 45, 3) := by decide +kernel
theorem dX2_turnRound_36 : decode cX2_turnRound 36 = .ok (.pop, 1) := by decide +kernel
theorem dX2_turnRound_37 : decode cX2_turnRound 37 = .ok (.iinc 1 1, 3) := by decide +kernel
theorem dX2_turnRound_40 : decode cX2_turnRound 40 = .ok (.goto (-38), 3) := by decide +kernel
theorem dX2_turnRound_43 : decode cX2_turnRound 43 = .ok (.return_, 1) := by decide +kernel
def sgX2_takeFirst : List (List Cond) := [[.code yX2_takeFirst cX2_takeFirst 3 (some .int)], [.fieldLink RX2 21 "Sashwords$Script" "length" "I", .methodLink RX2 9 Lib.Math.max.name, .static Lib.Math.max.name, .initialized "java/lang/Math", .code Lib.Math.max.name Lib.Math.max.code 2 (some .int), .methodLink RX2 44 yX2_at, .instanceMethod yX2_at, .selects RX2 yX2_at yX2_at, .initialized RX2, .code yX2_at cX2_at 2 (some .int), .fieldLink RX2 15 "Sashwords$Script" "signs" "[C", .methodLink RX2 45 yX2_exchange, .instanceMethod yX2_exchange, .selects RX2 yX2_exchange yX2_exchange, .code yX2_exchange cX2_exchange 4 (some .int)], wsX20]
theorem seX2_takeFirst : sgX2_takeFirst.flatten = wsX2_takeFirst := by simp only [sgX2_takeFirst, wsX2_takeFirst, List.flatten_cons, List.flatten_nil, List.append_assoc, List.append_nil, List.cons_append, List.nil_append]
set_option maxRecDepth 20000 in
theorem ggX2_takeFirst_X2_at : GoodIn wsX2_takeFirst wsX2_at := goodIn_s seX2_takeFirst _ [(1, 9), (1, 0), (1, 10), (2, 0), (2, 1)] (by rfl) (by decide +kernel)
set_option maxRecDepth 20000 in
theorem gX2_takeFirst_X2_at : GoodIn wsX2_takeFirst (wsV RX2 44 RX2 yX2_at wsX2_at) := goodIn_app (goodIn_s seX2_takeFirst _ [(1, 5), (1, 6), (1, 7), (1, 8)] (by rfl) (by decide +kernel)) ggX2_takeFirst_X2_at
set_option maxRecDepth 20000 in
theorem ggX2_takeFirst_X2_exchange : GoodIn wsX2_takeFirst wsX2_exchange := goodIn_s seX2_takeFirst _ [(1, 14), (1, 10), (1, 5), (1, 6), (1, 7), (1, 8), (1, 9), (1, 0), (2, 0), (2, 1)] (by rfl) (by decide +kernel)
set_option maxRecDepth 20000 in
theorem gX2_takeFirst_X2_exchange : GoodIn wsX2_takeFirst (wsV RX2 45 RX2 yX2_exchange wsX2_exchange) := goodIn_app (goodIn_s seX2_takeFirst _ [(1, 11), (1, 12), (1, 13), (1, 8)] (by rfl) (by decide +kernel)) ggX2_takeFirst_X2_exchange
theorem dX2_takeFirst_0 : decode cX2_takeFirst 0 = .ok (.aload_n 0, 1) := by decide +kernel
theorem dX2_takeFirst_1 : decode cX2_takeFirst 1 = .ok (.iconst 0, 1) := by decide +kernel
theorem dX2_takeFirst_2 : decode cX2_takeFirst 2 = .ok (.invokevirtual 44, 3) := by decide +kernel
theorem dX2_takeFirst_5 : decode cX2_takeFirst 5 = .ok (.istore_n 1, 1) := by decide +kernel
theorem dX2_takeFirst_6 : decode cX2_takeFirst 6 = .ok (.iconst 1, 1) := by decide +kernel
theorem dX2_takeFirst_7 : decode cX2_takeFirst 7 = .ok (.istore_n 2, 1) := by decide +kernel
theorem dX2_takeFirst_8 : decode cX2_takeFirst 8 = .ok (.iload_n 2, 1) := by decide +kernel
theorem dX2_takeFirst_9 : decode cX2_takeFirst 9 = .ok (.aload_n 0, 1) := by decide +kernel
theorem dX2_takeFirst_10 : decode cX2_takeFirst 10 = .ok (.getfield 21, 3) := by decide +kernel
theorem dX2_takeFirst_13 : decode cX2_takeFirst 13 = .ok (.if_icmp .ge 22, 3) := by decide +kernel
theorem dX2_takeFirst_16 : decode cX2_takeFirst 16 = .ok (.aload_n 0, 1) := by decide +kernel
theorem dX2_takeFirst_17 : decode cX2_takeFirst 17 = .ok (.iload_n 2, 1) := by decide +kernel
theorem dX2_takeFirst_18 : decode cX2_takeFirst 18 = .ok (.iconst 1, 1) := by decide +kernel
theorem dX2_takeFirst_19 : decode cX2_takeFirst 19 = .ok (.isub, 1) := by decide +kernel
theorem dX2_takeFirst_20 : decode cX2_takeFirst 20 = .ok (.aload_n 0, 1) := by decide +kernel
theorem dX2_takeFirst_21 : decode cX2_takeFirst 21 = .ok (.iload_n 2, 1) := by decide +kernel
theorem dX2_takeFirst_22 : decode cX2_takeFirst 22 = .ok (.invokevirtual 44, 3) := by decide +kernel
theorem dX2_takeFirst_25 : decode cX2_takeFirst 25 = .ok (.invokevirtual 45, 3) := by decide +kernel
theorem dX2_takeFirst_28 : decode cX2_takeFirst 28 = .ok (.pop, 1) := by decide +kernel
theorem dX2_takeFirst_29 : decode cX2_takeFirst 29 = .ok (.iinc 2 1, 3) := by decide +kernel
theorem dX2_takeFirst_32 : decode cX2_takeFirst 32 = .ok (.goto (-24), 3) := by decide +kernel
theorem dX2_takeFirst_35 : decode cX2_takeFirst 35 = .ok (.aload_n 0, 1) := by decide +kernel
theorem dX2_takeFirst_36 : decode cX2_takeFirst 36 = .ok (.aload_n 0, 1) := by decide +kernel
theorem dX2_takeFirst_37 : decode cX2_takeFirst 37 = .ok (.getfield 21, 3) := by decide +kernel
theorem dX2_takeFirst_40 : decode cX2_takeFirst 40 = .ok (.iconst 1, 1) := by decide +kernel
theorem dX2_takeFirst_41 : decode cX2_takeFirst 41 = .ok (.isub, 1) := by decide +kernel
theorem dX2_takeFirst_42 : decode cX2_takeFirst 42 = .ok (.iconst 0, 1) := by decide +kernel
theorem dX2_takeFirst_43 : decode cX2_takeFirst 43 = .ok (.invokestatic 9, 3) := by decide +kernel
theorem dX2_takeFirst_46 : decode cX2_takeFirst 46 = .ok (.putfield 21, 3) := by decide +kernel
theorem dX2_takeFirst_49 : decode cX2_takeFirst 49 = .ok (.iload_n 1, 1) := by decide +kernel
theorem dX2_takeFirst_50 : decode cX2_takeFirst 50 = .ok (.ireturn, 1) := by decide +kernel
