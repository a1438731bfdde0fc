set_option maxRecDepth 20000 in
theorem ggX0_init_X4_init : GoodIn wsX0_init wsX4_init := goodIn_r _ [9, 10, 2, 3, 11, 12, 13, 14, 15, 16, 17, 18, 19, 20, 21, 22, 23, 24, 28, 29, 30, 31, 32, 33, 34, 35, 36, 37, 38, 39, 40, 41, 42, 43, 44] (by decide +kernel) (by decide +kernel)
set_option maxRecDepth 20000 in
theorem gX0_init_X4_init_n15 : GoodIn wsX0_init (wsX4_init) := ggX0_init_X4_init
set_option maxRecDepth 20000 in
theorem ggX0_record_X4_copyFrom : GoodIn wsX0_record wsX4_copyFrom := goodIn_r _ [12, 13, 14, 15, 16, 17, 18, 19, 20, 21, 22, 23, 24, 25, 26, 27, 28, 29, 30, 31, 32, 33, 37, 38, 39, 40, 41, 42, 43, 44, 45, 46, 47, 48, 49, 50, 51, 52, 53] (by decide +kernel) (by decide +kernel)
set_option maxRecDepth 20000 in
theorem gX0_record_X4_copyFrom : GoodIn wsX0_record (wsV RX0 20 RX4 yX4_copyFrom wsX4_copyFrom) := goodIn_app (goodIn_of _ (by decide +kernel)) ggX0_record_X4_copyFrom
set_option maxRecDepth 20000 in
theorem ggX0_takeBack_X4_copyFrom : GoodIn wsX0_takeBack wsX4_copyFrom := goodIn_r _ [8, 9, 10, 11, 12, 13, 14, 15, 16, 17, 18, 19, 20, 21, 22, 23, 24, 25, 26, 27, 28, 29, 33, 34, 35, 36, 37, 38, 39, 40, 41, 42, 43, 44, 45, 46, 47, 48, 49] (by decide +kernel) (by decide +kernel)
set_option maxRecDepth 20000 in
theorem gX0_takeBack_X4_copyFrom : GoodIn wsX0_takeBack (wsV RX0 20 RX4 yX4_copyFrom wsX4_copyFrom) := goodIn_app (goodIn_of _ (by decide +kernel)) ggX0_takeBack_X4_copyFrom
set_option maxRecDepth 20000 in
theorem ggX1_putNumber_X1_put : GoodIn wsX1_putNumber wsX1_put := goodIn_r _ [5, 6, 7, 8, 9] (by decide +kernel) (by decide +kernel)
set_option maxRecDepth 20000 in
theorem gX1_putNumber_X1_put : GoodIn wsX1_putNumber (wsV RX1 17 RX1 yX1_put wsX1_put) := goodIn_app (goodIn_of _ (by decide +kernel)) ggX1_putNumber_X1_put
set_option maxRecDepth 20000 in
theorem ggX2_init_X4_init : GoodIn wsX2_init wsX4_init := goodIn_r _ [12, 13, 2, 3, 14, 15, 16, 17, 18, 19, 20, 21, 22, 23, 24, 25, 26, 27, 38, 39, 40, 41, 42, 43, 44, 45, 46, 47, 48, 49, 50, 51, 52, 53, 54] (by decide +kernel) (by decide +kernel)
set_option maxRecDepth 20000 in
theorem gX2_init_X4_init_n21 : GoodIn wsX2_init (wsX4_init) := ggX2_init_X4_init
set_option maxRecDepth 20000 in
theorem ggX2_putInt_X2_put : GoodIn wsX2_putInt wsX2_put := goodIn_r _ [5, 6, 7, 8, 9, 10, 11, 12, 13, 14, 15, 16, 17] (by decide +kernel) (by decide +kernel)
set_option maxRecDepth 20000 in
theorem gX2_putInt_X2_put : GoodIn wsX2_putInt (wsV RX2 29 RX2 yX2_put wsX2_put) := goodIn_app (goodIn_of _ (by decide +kernel)) ggX2_putInt_X2_put
set_option maxRecDepth 20000 in
theorem ggX2_putText_J0_length_8abf5 : GoodIn wsX2_putText wsJ0_length_8abf5 := goodIn_r _ [5, 6, 7, 8, 9, 4, 10, 11, 12] (by decide +kernel) (by decide +kernel)
set_option maxRecDepth 20000 in
theorem gX2_putText_J0_length_8abf5 : GoodIn wsX2_putText (wsV RX2 33 RJ0 yJ0_length_8abf5 wsJ0_length_8abf5) := goodIn_app (goodIn_of _ (by decide +kernel)) ggX2_putText_J0_length_8abf5
set_option maxRecDepth 20000 in
theorem ggX2_putText_J0_charAt_5068e : GoodIn wsX2_putText wsJ0_charAt_5068e := goodIn_r _ [16, 6, 17, 18, 19, 4, 20, 11, 12, 21, 22, 23, 24, 25, 26, 27, 28, 29, 30, 31, 32, 33, 34, 35, 36, 37, 38, 39, 40, 41, 42, 43, 44, 45, 46, 47, 48, 49] (by decide +kernel) (by decide +kernel)
set_option maxRecDepth 20000 in
theorem gX2_putText_J0_charAt_5068e : GoodIn wsX2_putText (wsV RX2 39 RJ0 yJ0_charAt_5068e wsJ0_charAt_5068e) := goodIn_app (goodIn_of _ (by decide +kernel)) ggX2_putText_J0_charAt_5068e
set_option maxRecDepth 20000 in
theorem ggX2_putText_X2_put : GoodIn wsX2_putText wsX2_put := goodIn_r _ [54, 55, 56, 57, 58, 59, 60, 61, 62, 63, 64, 65, 66] (by decide +kernel) (by decide +kernel)
set_option maxRecDepth 20000 in
theorem gX2_putText_X2_put : GoodIn wsX2_putText (wsV RX2 29 RX2 yX2_put wsX2_put) := goodIn_app (goodIn_of _ (by decide +kernel)) ggX2_putText_X2_put
set_option maxRecDepth 20000 in
theorem ggX2_parseText_X4_makeEmpty : GoodIn wsX2_parseText wsX4_makeEmpty := goodIn_r _ [17, 18, 19, 20, 21, 22, 197, 198, 199, 200, 201, 202, 203, 204, 205, 206, 207, 208, 209, 210, 211, 212, 213] (by decide +kernel) (by decide +kernel)
set_option maxRecDepth 20000 in
theorem gX2_parseText_X4_makeEmpty : GoodIn wsX2_parseText (wsV RX2 55 RX4 yX4_makeEmpty wsX4_makeEmpty) := goodIn_app (goodIn_of _ (by decide +kernel)) ggX2_parseText_X4_makeEmpty
set_option maxRecDepth 20000 in
theorem ggX2_parseText_X2_readToken : GoodIn wsX2_parseText wsX2_readToken := goodIn_r _ [27, 10, 12, 11, 28, 6, 29, 30, 31, 32, 26, 33, 187, 188, 189, 190, 191, 192, 193, 194, 195, 196] (by decide +kernel) (by decide +kernel)
set_option maxRecDepth 20000 in
theorem gX2_parseText_X2_readToken : GoodIn wsX2_parseText (wsV RX2 67 RX2 yX2_readToken wsX2_readToken) := goodIn_app (goodIn_of _ (by decide +kernel)) ggX2_parseText_X2_readToken
set_option maxRecDepth 20000 in
theorem ggX2_parseText_X2_takeWord : GoodIn wsX2_parseText wsX2_takeWord := goodIn_r _ [37, 10, 12, 11, 29, 38, 39, 40, 41, 42, 43, 44, 45, 46, 47, 48, 49, 50, 51, 52, 53, 54, 55, 56, 57, 58, 59, 60, 61, 62, 63, 64, 65, 66, 67, 68, 69, 70, 71, 72, 73, 74, 75, 76, 77, 78, 79, 80, 81, 82, 83, 84, 85, 86, 23, 24, 25, 26, 27, 28, 6, 30, 31, 32, 33, 187, 188, 189, 190, 191, 192, 193, 194, 195, 196] (by decide +kernel) (by decide +kernel)
set_option maxRecDepth 20000 in
theorem gX2_parseText_X2_takeWord : GoodIn wsX2_parseText (wsV RX2 72 RX2 yX2_takeWord wsX2_takeWord) := goodIn_app (goodIn_of _ (by decide +kernel)) ggX2_parseText_X2_takeWord
set_option maxRecDepth 20000 in
theorem ggX2_parseText_X2_fail : GoodIn wsX2_parseText wsX2_fail := goodIn_r _ [90, 7, 8, 187, 188, 189, 190, 191, 192, 193, 194, 195, 196] (by decide +kernel) (by decide +kernel)
set_option maxRecDepth 20000 in
theorem gX2_parseText_X2_fail : GoodIn wsX2_parseText (wsV RX2 76 RX2 yX2_fail wsX2_fail) := goodIn_app (goodIn_of _ (by decide +kernel)) ggX2_parseText_X2_fail
set_option maxRecDepth 20000 in
theorem ggX2_parseText_X2_parseLine : GoodIn wsX2_parseText wsX2_parseLine := goodIn_r _ [94, 9, 95, 2, 3, 4, 5, 96, 11, 34, 35, 36, 26, 37, 10, 12, 29, 38, 39, 40, 41, 42, 43, 44, 45, 46, 47, 48, 49, 50, 51, 52, 53, 54, 55, 56, 57, 58, 59, 60, 61, 62, 63, 64, 65, 66, 67, 68, 69, 70, 71, 72, 73, 74, 75, 76, 77, 78, 79, 80, 81, 82, 83, 84, 85, 86, 23, 24, 25, 27, 28, 6, 30, 31, 32, 33, 97, 98, 99, 100, 87, 88, 89, 90, 7, 8, 101, 102, 103, 104, 105, 106, 107, 16, 108, 19, 109, 110, 111, 112, 113, 114, 115, 116, 117, 118, 119, 120, 121, 122, 123, 124, 125, 126, 127, 20, 128, 129, 130, 131, 132, 133, 22, 134, 135, 136, 137, 18, 138, 139, 140, 141, 142, 143, 144, 145, 146, 147, 148, 149, 150, 151, 152, 153, 154, 155, 156, 157, 158, 159, 160, 161, 162, 163, 164, 165, 166, 167, 168, 169, 170, 171, 172, 173, 174, 175, 176, 177, 178, 179, 180, 181, 182, 183, 184, 185, 186, 187, 188, 189, 190, 191, 192, 193, 194, 195, 196, 197, 198, 199, 200, 201, 202, 203, 204, 205, 206, 207, 208, 209, 210, 211, 212, 213] (by decide +kernel) (by decide +kernel)
set_option maxRecDepth 20000 in
theorem gX2_parseText_X2_parseLine : GoodIn wsX2_parseText (wsV RX2 80 RX2 yX2_parseLine wsX2_parseLine) := goodIn_app (goodIn_of _ (by decide +kernel)) ggX2_parseText_X2_parseLine
set_option maxRecDepth 20000 in
theorem ggX2_parseLine_X2_takeWord : GoodIn wsX2_parseLine wsX2_takeWord := goodIn_r _ [13, 14, 15, 8, 16, 17, 18, 19, 20, 21, 22, 23, 24, 25, 26, 27, 28, 29, 30, 31, 32, 33, 34, 35, 36, 37, 38, 39, 40, 41, 42, 43, 44, 45, 46, 47, 48, 49, 50, 51, 52, 53, 54, 55, 56, 57, 58, 59, 60, 61, 62, 63, 64, 65, 66, 67, 68, 12, 69, 70, 71, 72, 73, 74, 75, 177, 178, 179, 180, 181, 182, 183, 184, 185, 186] (by decide +kernel) (by decide +kernel)
set_option maxRecDepth 20000 in
theorem gX2_parseLine_X2_takeWord : GoodIn wsX2_parseLine (wsV RX2 72 RX2 yX2_takeWord wsX2_takeWord) := goodIn_app (goodIn_of _ (by decide +kernel)) ggX2_parseLine_X2_takeWord
set_option maxRecDepth 20000 in
theorem ggX2_parseLine_X2_parseBlock : GoodIn wsX2_parseLine wsX2_parseBlock := goodIn_r _ [79, 1, 7, 70, 80, 81, 82, 12, 83, 84, 85, 86, 87, 88, 89, 14, 15, 8, 16, 66, 67, 68, 69, 71, 72, 73, 74, 75, 9, 10, 11, 13, 17, 18, 19, 20, 21, 22, 23, 24, 25, 26, 27, 28, 29, 30, 31, 32, 33, 34, 35, 36, 37, 38, 39, 40, 41, 42, 43, 44, 45, 46, 47, 48, 49, 50, 51, 52, 53, 54, 55, 56, 57, 58, 59, 60, 61, 62, 63, 64, 65, 90, 91, 92, 93, 94, 95, 96, 97, 98, 99, 100, 101, 177, 178, 179, 180, 181, 182, 183, 184, 185, 186, 187, 188, 189, 190, 191, 192, 193, 194, 195, 196, 197, 198, 199, 200, 201, 202, 203] (by decide +kernel) (by decide +kernel)
set_option maxRecDepth 20000 in
theorem gX2_parseLine_X2_parseBlock : GoodIn wsX2_parseLine (wsV RX2 86 RX2 yX2_parseBlock wsX2_parseBlock) := goodIn_app (goodIn_of _ (by decide +kernel)) ggX2_parseLine_X2_parseBlock
set_option maxRecDepth 20000 in
theorem ggX2_parseLine_X2_parseTrain : GoodIn wsX2_parseLine wsX2_parseTrain := goodIn_r _ [105, 1, 106, 70, 7, 80, 81, 82, 12, 83, 84, 85, 86, 87, 88, 89, 14, 15, 8, 16, 66, 67, 68, 69, 71, 72, 73, 74, 75, 107, 108, 109, 93, 110, 101, 100, 111, 112, 113, 114, 115, 116, 117, 118, 119, 120, 121, 122, 177, 178, 179, 180, 181, 182, 183, 184, 185, 186, 187, 188, 189, 190, 191, 192, 193, 194, 195, 196, 197, 198, 199, 200, 201, 202, 203] (by decide +kernel) (by decide +kernel)
set_option maxRecDepth 20000 in
theorem gX2_parseLine_X2_parseTrain : GoodIn wsX2_parseLine (wsV RX2 91 RX2 yX2_parseTrain wsX2_parseTrain) := goodIn_app (goodIn_of _ (by decide +kernel)) ggX2_parseLine_X2_parseTrain
set_option maxRecDepth 20000 in
theorem ggX2_parseLine_X2_takeNumber : GoodIn wsX2_parseLine wsX2_takeNumber := goodIn_r _ [89, 14, 15, 8, 16, 80, 81, 82, 12, 83, 84, 85, 66, 67, 68, 69, 70, 71, 72, 73, 74, 75, 177, 178, 179, 180, 181, 182, 183, 184, 185, 186] (by decide +kernel) (by decide +kernel)
set_option maxRecDepth 20000 in
theorem gX2_parseLine_X2_takeNumber : GoodIn wsX2_parseLine (wsV RX2 99 RX2 yX2_takeNumber wsX2_takeNumber) := goodIn_app (goodIn_of _ (by decide +kernel)) ggX2_parseLine_X2_takeNumber
set_option maxRecDepth 20000 in
theorem ggX2_parseLine_X4_pass : GoodIn wsX2_parseLine wsX4_pass := goodIn_r _ [126, 127, 115, 128, 129, 130, 93, 131, 116, 117, 96, 132, 4, 5, 6, 120, 101, 99, 133, 134, 135, 136, 119, 137, 138, 139, 140, 98, 141, 142, 143, 144, 95, 145, 146, 147, 148, 149, 108, 109, 110, 100, 150, 151, 152, 153, 97, 118, 121, 187, 188, 189, 190, 191, 192, 193, 194, 195, 196, 197, 198, 199, 200, 201, 202, 203] (by decide +kernel) (by decide +kernel)
set_option maxRecDepth 20000 in
theorem gX2_parseLine_X4_pass : GoodIn wsX2_parseLine (wsV RX2 102 RX4 yX4_pass wsX4_pass) := goodIn_app (goodIn_of _ (by decide +kernel)) ggX2_parseLine_X4_pass
set_option maxRecDepth 20000 in
theorem ggX2_parseLine_X2_pullLever : GoodIn wsX2_parseLine wsX2_pullLever := goodIn_r _ [157, 1, 70, 158, 159, 160, 161, 93, 162, 101, 100, 99, 163, 164, 165, 166, 98, 141, 142, 143, 144, 95, 149, 108, 109, 110, 80, 81, 82, 12, 83, 84, 85, 177, 178, 179, 180, 181, 182, 183, 184, 185, 186, 187, 188, 189, 190, 191, 192, 193, 194, 195, 196, 197, 198, 199, 200, 201, 202, 203] (by decide +kernel) (by decide +kernel)
set_option maxRecDepth 20000 in
theorem gX2_parseLine_X2_pullLever : GoodIn wsX2_parseLine (wsV RX2 111 RX2 yX2_pullLever wsX2_pullLever) := goodIn_app (goodIn_of _ (by decide +kernel)) ggX2_parseLine_X2_pullLever
set_option maxRecDepth 20000 in
theorem ggX2_parseLine_X2_showDanger : GoodIn wsX2_parseLine wsX2_showDanger := goodIn_r _ [170, 1, 158, 70, 80, 81, 82, 12, 83, 84, 85, 177, 178, 179, 180, 181, 182, 183, 184, 185, 186, 187, 188, 189, 190, 191, 192, 193, 194, 195, 196, 197, 198, 199, 200, 201, 202, 203] (by decide +kernel) (by decide +kernel)
set_option maxRecDepth 20000 in
theorem gX2_parseLine_X2_showDanger : GoodIn wsX2_parseLine (wsV RX2 117 RX2 yX2_showDanger wsX2_showDanger) := goodIn_app (goodIn_of _ (by decide +kernel)) ggX2_parseLine_X2_showDanger
set_option maxRecDepth 20000 in
theorem ggX2_parseLine_X2_mend : GoodIn wsX2_parseLine wsX2_mend := goodIn_r _ [174, 1, 175, 70, 176, 80, 81, 82, 12, 83, 84, 85, 177, 178, 179, 180, 181, 182, 183, 184, 185, 186, 187, 188, 189, 190, 191, 192, 193, 194, 195, 196, 197, 198, 199, 200, 201, 202, 203] (by decide +kernel) (by decide +kernel)
set_option maxRecDepth 20000 in
theorem gX2_parseLine_X2_mend : GoodIn wsX2_parseLine (wsV RX2 122 RX2 yX2_mend wsX2_mend) := goodIn_app (goodIn_of _ (by decide +kernel)) ggX2_parseLine_X2_mend
set_option maxRecDepth 20000 in
theorem ggX2_parseLine_X2_fail : GoodIn wsX2_parseLine wsX2_fail := goodIn_r _ [83, 84, 85, 177, 178, 179, 180, 181, 182, 183, 184, 185, 186] (by decide +kernel) (by decide +kernel)
set_option maxRecDepth 20000 in
theorem gX2_parseLine_X2_fail : GoodIn wsX2_parseLine (wsV RX2 76 RX2 yX2_fail wsX2_fail) := goodIn_app (goodIn_of _ (by decide +kernel)) ggX2_parseLine_X2_fail
set_option maxRecDepth 20000 in
theorem ggX2_parseBlock_X2_fail : GoodIn wsX2_parseBlock wsX2_fail := goodIn_r _ [8, 9, 10, 93, 94, 95, 96, 97, 98, 99, 100, 101, 102] (by decide +kernel) (by decide +kernel)
set_option maxRecDepth 20000 in
theorem gX2_parseBlock_X2_fail : GoodIn wsX2_parseBlock (wsV RX2 76 RX2 yX2_fail wsX2_fail) := goodIn_app (goodIn_of _ (by decide +kernel)) ggX2_parseBlock_X2_fail
set_option maxRecDepth 20000 in
theorem ggX2_parseBlock_X2_takeNumber : GoodIn wsX2_parseBlock wsX2_takeNumber := goodIn_r _ [14, 15, 16, 17, 18, 4, 5, 6, 7, 8, 9, 10, 19, 20, 21, 22, 3, 23, 24, 25, 26, 27, 93, 94, 95, 96, 97, 98, 99, 100, 101, 102] (by decide +kernel) (by decide +kernel)
set_option maxRecDepth 20000 in
theorem gX2_parseBlock_X2_takeNumber : GoodIn wsX2_parseBlock (wsV RX2 99 RX2 yX2_takeNumber wsX2_takeNumber) := goodIn_app (goodIn_of _ (by decide +kernel)) ggX2_parseBlock_X2_takeNumber
set_option maxRecDepth 20000 in
theorem ggX2_parseBlock_X2_takeWord : GoodIn wsX2_parseBlock wsX2_takeWord := goodIn_r _ [31, 15, 16, 17, 18, 32, 33, 34, 35, 36, 37, 38, 39, 40, 41, 42, 43, 44, 45, 46, 47, 48, 49, 50, 51, 52, 53, 54, 55, 56, 57, 58, 59, 60, 61, 62, 63, 64, 65, 66, 67, 68, 69, 70, 71, 72, 73, 74, 75, 76, 77, 78, 79, 80, 19, 20, 21, 7, 22, 3, 23, 24, 25, 26, 27, 93, 94, 95, 96, 97, 98, 99, 100, 101, 102] (by decide +kernel) (by decide +kernel)
set_option maxRecDepth 20000 in
theorem gX2_parseBlock_X2_takeWord : GoodIn wsX2_parseBlock (wsV RX2 72 RX2 yX2_takeWord wsX2_takeWord) := goodIn_app (goodIn_of _ (by decide +kernel)) ggX2_parseBlock_X2_takeWord
set_option maxRecDepth 20000 in
theorem ggX2_parseBlock_X4_addBlock : GoodIn wsX2_parseBlock wsX4_addBlock := goodIn_r _ [85, 86, 87, 88, 89, 90, 91, 92, 103, 104, 105, 106, 107, 108, 109, 110, 111, 112, 113, 114, 115, 116, 117, 118, 119] (by decide +kernel) (by decide +kernel)
set_option maxRecDepth 20000 in
theorem gX2_parseBlock_X4_addBlock : GoodIn wsX2_parseBlock (wsV RX2 130 RX4 yX4_addBlock wsX4_addBlock) := goodIn_app (goodIn_of _ (by decide +kernel)) ggX2_parseBlock_X4_addBlock
set_option maxRecDepth 20000 in
theorem ggX2_parseTrain_X2_fail : GoodIn wsX2_parseTrain wsX2_fail := goodIn_r _ [9, 10, 11, 48, 49, 50, 51, 52, 53, 54, 55, 56, 57] (by decide +kernel) (by decide +kernel)
set_option maxRecDepth 20000 in
theorem gX2_parseTrain_X2_fail : GoodIn wsX2_parseTrain (wsV RX2 76 RX2 yX2_fail wsX2_fail) := goodIn_app (goodIn_of _ (by decide +kernel)) ggX2_parseTrain_X2_fail
set_option maxRecDepth 20000 in
theorem ggX2_parseTrain_X2_takeNumber : GoodIn wsX2_parseTrain wsX2_takeNumber := goodIn_r _ [15, 16, 17, 18, 19, 5, 6, 7, 8, 9, 10, 11, 20, 21, 22, 23, 3, 24, 25, 26, 27, 28, 48, 49, 50, 51, 52, 53, 54, 55, 56, 57] (by decide +kernel) (by decide +kernel)
set_option maxRecDepth 20000 in
theorem gX2_parseTrain_X2_takeNumber : GoodIn wsX2_parseTrain (wsV RX2 99 RX2 yX2_takeNumber wsX2_takeNumber) := goodIn_app (goodIn_of _ (by decide +kernel)) ggX2_parseTrain_X2_takeNumber
set_option maxRecDepth 20000 in
theorem ggX2_parseTrain_X4_occupied : GoodIn wsX2_parseTrain wsX4_occupied := goodIn_r _ [33, 34, 35, 58, 59, 60, 61, 62, 63, 64, 65, 66, 67, 68, 69, 70, 71, 72, 73, 74] (by decide +kernel) (by decide +kernel)
set_option maxRecDepth 20000 in
theorem gX2_parseTrain_X4_occupied : GoodIn wsX2_parseTrain (wsV RX2 137 RX4 yX4_occupied wsX4_occupied) := goodIn_app (goodIn_of _ (by decide +kernel)) ggX2_parseTrain_X4_occupied
set_option maxRecDepth 20000 in
theorem ggX2_parseTrain_X4_addTrain : GoodIn wsX2_parseTrain wsX4_addTrain := goodIn_r _ [39, 40, 41, 42, 43, 44, 45, 46, 34, 47, 58, 59, 60, 61, 62, 63, 64, 65, 66, 67, 68, 69, 70, 71, 72, 73, 74] (by decide +kernel) (by decide +kernel)
set_option maxRecDepth 20000 in
theorem gX2_parseTrain_X4_addTrain : GoodIn wsX2_parseTrain (wsV RX2 140 RX4 yX4_addTrain wsX4_addTrain) := goodIn_app (goodIn_of _ (by decide +kernel)) ggX2_parseTrain_X4_addTrain
set_option maxRecDepth 20000 in
theorem ggX2_pullLever_X4_leverObstacle : GoodIn wsX2_pullLever wsX4_leverObstacle := goodIn_r _ [8, 9, 10, 11, 12, 13, 14, 7, 15, 16, 17, 18, 19, 20, 21, 22, 23, 24, 25, 43, 44, 45, 46, 47, 48, 49, 50, 51, 52, 53, 54, 55, 56, 57, 58, 59] (by decide +kernel) (by decide +kernel)
set_option maxRecDepth 20000 in
theorem gX2_pullLever_X4_leverObstacle : GoodIn wsX2_pullLever (wsV RX2 143 RX4 yX4_leverObstacle wsX4_leverObstacle) := goodIn_app (goodIn_of _ (by decide +kernel)) ggX2_pullLever_X4_leverObstacle
set_option maxRecDepth 20000 in
theorem ggX2_pullLever_X2_fail : GoodIn wsX2_pullLever wsX2_fail := goodIn_r _ [30, 31, 32, 33, 34, 35, 36, 37, 38, 39, 40, 41, 42] (by decide +kernel) (by decide +kernel)
set_option maxRecDepth 20000 in
theorem gX2_pullLever_X2_fail : GoodIn wsX2_pullLever (wsV RX2 76 RX2 yX2_fail wsX2_fail) := goodIn_app (goodIn_of _ (by decide +kernel)) ggX2_pullLever_X2_fail
set_option maxRecDepth 20000 in
theorem ggX2_showDanger_X2_fail : GoodIn wsX2_showDanger wsX2_fail := goodIn_r _ [8, 9, 10, 11, 12, 13, 14, 15, 16, 17, 18, 19, 20] (by decide +kernel) (by decide +kernel)
set_option maxRecDepth 20000 in
theorem gX2_showDanger_X2_fail : GoodIn wsX2_showDanger (wsV RX2 76 RX2 yX2_fail wsX2_fail) := goodIn_app (goodIn_of _ (by decide +kernel)) ggX2_showDanger_X2_fail
set_option maxRecDepth 20000 in
theorem ggX2_mend_X2_fail : GoodIn wsX2_mend wsX2_fail := goodIn_r _ [9, 10, 11, 12, 13, 14, 15, 16, 17, 18, 19, 20, 21] (by decide +kernel) (by decide +kernel)
set_option maxRecDepth 20000 in
theorem gX2_mend_X2_fail : GoodIn wsX2_mend (wsV RX2 76 RX2 yX2_fail wsX2_fail) := goodIn_app (goodIn_of _ (by decide +kernel)) ggX2_mend_X2_fail
set_option maxRecDepth 20000 in
theorem ggX2_takeWord_J0_length_8abf5 : GoodIn wsX2_takeWord wsJ0_length_8abf5 := goodIn_r _ [9, 10, 11, 12, 13, 8, 14, 15, 16] (by decide +kernel) (by decide +kernel)
set_option maxRecDepth 20000 in
theorem gX2_takeWord_J0_length_8abf5 : GoodIn wsX2_takeWord (wsV RX2 33 RJ0 yJ0_length_8abf5 wsJ0_length_8abf5) := goodIn_app (goodIn_of _ (by decide +kernel)) ggX2_takeWord_J0_length_8abf5
set_option maxRecDepth 20000 in
theorem ggX2_takeWord_J0_charAt_5068e : GoodIn wsX2_takeWord wsJ0_charAt_5068e := goodIn_r _ [20, 10, 21, 22, 23, 8, 24, 15, 16, 25, 26, 27, 28, 29, 30, 31, 32, 33, 34, 35, 36, 37, 38, 39, 40, 41, 42, 43, 44, 45, 46, 47, 48, 49, 50, 51, 52, 53] (by decide +kernel) (by decide +kernel)
set_option maxRecDepth 20000 in
theorem gX2_takeWord_J0_charAt_5068e : GoodIn wsX2_takeWord (wsV RX2 39 RJ0 yJ0_charAt_5068e wsJ0_charAt_5068e) := goodIn_app (goodIn_of _ (by decide +kernel)) ggX2_takeWord_J0_charAt_5068e
set_option maxRecDepth 20000 in
theorem ggX2_takeWord_X2_readToken : GoodIn wsX2_takeWord wsX2_readToken := goodIn_r _ [58, 1, 2, 3, 59, 60, 4, 61, 62, 63, 57, 64, 65, 66, 67, 68, 69, 70, 71, 72, 73, 74] (by decide +kernel) (by decide +kernel)
set_option maxRecDepth 20000 in
theorem gX2_takeWord_X2_readToken : GoodIn wsX2_takeWord (wsV RX2 67 RX2 yX2_readToken wsX2_readToken) := goodIn_app (goodIn_of _ (by decide +kernel)) ggX2_takeWord_X2_readToken
set_option maxRecDepth 20000 in
theorem ggX2_takeNumber_X2_fail : GoodIn wsX2_takeNumber wsX2_fail := goodIn_r _ [9, 10, 11, 22, 23, 24, 25, 26, 27, 28, 29, 30, 31] (by decide +kernel) (by decide +kernel)
set_option maxRecDepth 20000 in
theorem gX2_takeNumber_X2_fail : GoodIn wsX2_takeNumber (wsV RX2 76 RX2 yX2_fail wsX2_fail) := goodIn_app (goodIn_of _ (by decide +kernel)) ggX2_takeNumber_X2_fail
set_option maxRecDepth 20000 in
theorem ggX2_takeNumber_X2_readToken : GoodIn wsX2_takeNumber wsX2_readToken := goodIn_r _ [15, 1, 2, 3, 16, 17, 4, 18, 19, 20, 8, 21, 22, 23, 24, 25, 26, 27, 28, 29, 30, 31] (by decide +kernel) (by decide +kernel)
set_option maxRecDepth 20000 in
theorem gX2_takeNumber_X2_readToken : GoodIn wsX2_takeNumber (wsV RX2 67 RX2 yX2_readToken wsX2_readToken) := goodIn_app (goodIn_of _ (by decide +kernel)) ggX2_takeNumber_X2_readToken
set_option maxRecDepth 20000 in
theorem ggX2_readToken_X2_endOfRun : GoodIn wsX2_readToken wsX2_endOfRun := goodIn_r _ [11, 3, 5, 6, 12, 13, 14, 15, 16, 17, 18, 19, 20, 21] (by decide +kernel) (by decide +kernel)
set_option maxRecDepth 20000 in
theorem gX2_readToken_X2_endOfRun : GoodIn wsX2_readToken (wsV RX2 157 RX2 yX2_endOfRun wsX2_endOfRun) := goodIn_app (goodIn_of _ (by decide +kernel)) ggX2_readToken_X2_endOfRun
set_option maxRecDepth 20000 in
theorem ggX3_init_X4_init : GoodIn wsX3_init wsX4_init := goodIn_r _ [9, 10, 2, 3, 11, 12, 13, 14, 15, 16, 17, 18, 19, 20, 21, 22, 23, 24, 25, 26, 27, 28, 29, 30, 31, 32, 33, 34, 35, 36, 37, 38, 39, 40, 41] (by decide +kernel) (by decide +kernel)
set_option maxRecDepth 20000 in
theorem gX3_init_X4_init_n9 : GoodIn wsX3_init (wsX4_init) := ggX3_init_X4_init
set_option maxRecDepth 20000 in
theorem ggX4_speedNow_X4_speedLimit : GoodIn wsX4_speedNow wsX4_speedLimit := goodIn_r _ [11, 12, 13, 14, 15, 16, 17, 18, 19, 20, 21, 22, 23, 24, 25, 26, 27, 28, 29] (by decide +kernel) (by decide +kernel)
set_option maxRecDepth 20000 in
theorem gX4_speedNow_X4_speedLimit : GoodIn wsX4_speedNow (wsV RX4 71 RX4 yX4_speedLimit wsX4_speedLimit) := goodIn_app (goodIn_of _ (by decide +kernel)) ggX4_speedNow_X4_speedLimit
set_option maxRecDepth 20000 in
theorem ggX4_opensTo_X4_occupied : GoodIn wsX4_opensTo wsX4_occupied := goodIn_r _ [6, 7, 8, 9, 10, 11, 12, 13, 14, 15, 16, 17, 18, 19, 20, 21, 22, 23, 24, 25] (by decide +kernel) (by decide +kernel)
set_option maxRecDepth 20000 in
theorem gX4_opensTo_X4_occupied : GoodIn wsX4_opensTo (wsV RX4 81 RX4 yX4_occupied wsX4_occupied) := goodIn_app (goodIn_of _ (by decide +kernel)) ggX4_opensTo_X4_occupied
set_option maxRecDepth 20000 in
theorem ggX4_leverObstacle_X4_bends : GoodIn wsX4_leverObstacle wsX4_bends := goodIn_r _ [8, 9, 19, 20, 21, 22, 23, 24, 25, 26, 27, 28, 29, 30, 31, 32, 33, 34, 35] (by decide +kernel) (by decide +kernel)
set_option maxRecDepth 20000 in
theorem gX4_leverObstacle_X4_bends : GoodIn wsX4_leverObstacle (wsV RX4 85 RX4 yX4_bends wsX4_bends) := goodIn_app (goodIn_of _ (by decide +kernel)) ggX4_leverObstacle_X4_bends
set_option maxRecDepth 20000 in
theorem ggX4_leverObstacle_X4_nextBlock : GoodIn wsX4_leverObstacle wsX4_nextBlock := goodIn_r _ [13, 14, 19, 20, 21, 22, 23, 24, 25, 26, 27, 28, 29, 30, 31, 32, 33, 34, 35] (by decide +kernel) (by decide +kernel)
set_option maxRecDepth 20000 in
theorem gX4_leverObstacle_X4_nextBlock : GoodIn wsX4_leverObstacle (wsV RX4 88 RX4 yX4_nextBlock wsX4_nextBlock) := goodIn_app (goodIn_of _ (by decide +kernel)) ggX4_leverObstacle_X4_nextBlock
set_option maxRecDepth 20000 in
theorem ggX4_leverObstacle_X4_occupied : GoodIn wsX4_leverObstacle wsX4_occupied := goodIn_r _ [18, 1, 2, 19, 20, 21, 22, 23, 24, 25, 26, 27, 28, 29, 30, 31, 32, 33, 34, 35] (by decide +kernel) (by decide +kernel)
set_option maxRecDepth 20000 in
theorem gX4_leverObstacle_X4_occupied : GoodIn wsX4_leverObstacle (wsV RX4 81 RX4 yX4_occupied wsX4_occupied) := goodIn_app (goodIn_of _ (by decide +kernel)) ggX4_leverObstacle_X4_occupied
set_option maxRecDepth 20000 in
theorem ggX4_pass_X4_move : GoodIn wsX4_pass wsX4_move := goodIn_r _ [7, 8, 9, 10, 11, 12, 13, 14, 15, 16, 17, 18, 19, 20, 6, 21, 22, 23, 24, 25, 26, 27, 28, 29, 30, 31, 32, 33, 34, 35, 36, 37, 38, 39, 40, 41, 42, 43, 44, 45, 46, 47, 48, 49, 50, 51, 52, 53, 54, 55, 56, 57, 58, 59, 60, 61, 62, 63, 64, 65] (by decide +kernel) (by decide +kernel)
set_option maxRecDepth 20000 in
theorem gX4_pass_X4_move : GoodIn wsX4_pass (wsV RX4 91 RX4 yX4_move wsX4_move) := goodIn_app (goodIn_of _ (by decide +kernel)) ggX4_pass_X4_move
set_option maxRecDepth 20000 in
theorem ggX4_move_X4_speedNow : GoodIn wsX4_move wsX4_speedNow := goodIn_r _ [15, 16, 1, 4, 5, 6, 7, 17, 18, 19, 14, 20, 21, 43, 44, 45, 46, 47, 48, 49, 50, 51, 52, 53, 54, 55, 56, 57, 58, 59] (by decide +kernel) (by decide +kernel)
set_option maxRecDepth 20000 in
theorem gX4_move_X4_speedNow : GoodIn wsX4_move (wsV RX4 94 RX4 yX4_speedNow wsX4_speedNow) := goodIn_app (goodIn_of _ (by decide +kernel)) ggX4_move_X4_speedNow
set_option maxRecDepth 20000 in
theorem ggX4_move_X4_nextBlock : GoodIn wsX4_move wsX4_nextBlock := goodIn_r _ [25, 26, 43, 44, 45, 46, 47, 48, 49, 50, 51, 52, 53, 54, 55, 56, 57, 58, 59] (by decide +kernel) (by decide +kernel)
set_option maxRecDepth 20000 in
theorem gX4_move_X4_nextBlock : GoodIn wsX4_move (wsV RX4 88 RX4 yX4_nextBlock wsX4_nextBlock) := goodIn_app (goodIn_of _ (by decide +kernel)) ggX4_move_X4_nextBlock
set_option maxRecDepth 20000 in
theorem ggX4_move_X4_opensTo : GoodIn wsX4_move wsX4_opensTo := goodIn_r _ [30, 10, 31, 32, 33, 14, 34, 9, 35, 43, 44, 45, 46, 47, 48, 49, 50, 51, 52, 53, 54, 55, 56, 57, 58, 59] (by decide +kernel) (by decide +kernel)
set_option maxRecDepth 20000 in
theorem gX4_move_X4_opensTo : GoodIn wsX4_move (wsV RX4 97 RX4 yX4_opensTo wsX4_opensTo) := goodIn_app (goodIn_of _ (by decide +kernel)) ggX4_move_X4_opensTo
set_option maxRecDepth 20000 in
theorem ggX4_move_X4_leave : GoodIn wsX4_move wsX4_leave := goodIn_r _ [39, 40, 41, 35, 4, 5, 6, 7, 42, 9, 43, 44, 45, 46, 47, 48, 49, 50, 51, 52, 53, 54, 55, 56, 57, 58, 59] (by decide +kernel) (by decide +kernel)
set_option maxRecDepth 20000 in
theorem gX4_move_X4_leave : GoodIn wsX4_move (wsV RX4 100 RX4 yX4_leave wsX4_leave) := goodIn_app (goodIn_of _ (by decide +kernel)) ggX4_move_X4_leave
set_option maxRecDepth 20000 in
theorem ggX5_init_X4_init : GoodIn wsX5_init wsX4_init := goodIn_r _ [28, 29, 2, 3, 30, 31, 32, 33, 34, 35, 36, 37, 38, 39, 40, 41, 42, 43, 257, 258, 259, 260, 261, 262, 263, 264, 265, 266, 267, 268, 269, 270, 271, 272, 273] (by decide +kernel) (by decide +kernel)
set_option maxRecDepth 20000 in
theorem gX5_init_X4_init_n9 : GoodIn wsX5_init (wsX4_init) := ggX5_init_X4_init
set_option maxRecDepth 20000 in
theorem ggX5_init_X0_init : GoodIn wsX5_init wsX0_init := goodIn_r _ [46, 47, 2, 3, 48, 49, 5, 6, 27, 28, 29, 30, 31, 32, 33, 34, 35, 36, 37, 38, 39, 40, 41, 42, 43, 281, 282, 283, 257, 258, 259, 260, 261, 262, 263, 264, 265, 266, 267, 268, 269, 270, 271, 272, 273] (by decide +kernel) (by decide +kernel)
set_option maxRecDepth 20000 in
theorem gX5_init_X0_init : GoodIn wsX5_init (wsX0_init) := ggX5_init_X0_init
set_option maxRecDepth 20000 in
theorem ggX5_init_X3_init : GoodIn wsX5_init wsX3_init := goodIn_r _ [51, 52, 2, 3, 53, 5, 6, 54, 27, 28, 29, 30, 31, 32, 33, 34, 35, 36, 37, 38, 39, 40, 41, 42, 43, 257, 258, 259, 260, 261, 262, 263, 264, 265, 266, 267, 268, 269, 270, 271, 272, 273, 284, 285] (by decide +kernel) (by decide +kernel)
set_option maxRecDepth 20000 in
theorem gX5_init_X3_init_n28 : GoodIn wsX5_init (wsX3_init) := ggX5_init_X3_init
set_option maxRecDepth 20000 in
theorem ggX5_init_X2_init : GoodIn wsX5_init wsX2_init := goodIn_r _ [56, 57, 2, 3, 58, 59, 60, 61, 5, 6, 62, 27, 28, 29, 30, 31, 32, 33, 34, 35, 36, 37, 38, 39, 40, 41, 42, 43, 286, 287, 288, 289, 290, 291, 292, 293, 294, 295, 257, 258, 259, 260, 261, 262, 263, 264, 265, 266, 267, 268, 269, 270, 271, 272, 273] (by decide +kernel) (by decide +kernel)
set_option maxRecDepth 20000 in
theorem gX5_init_X2_init_n38 : GoodIn wsX5_init (wsX2_init) := ggX5_init_X2_init
set_option maxRecDepth 20000 in
theorem ggX5_init_X1_init : GoodIn wsX5_init wsX1_init := goodIn_r _ [64, 65, 2, 3, 58, 66, 296, 297] (by decide +kernel) (by decide +kernel)
set_option maxRecDepth 20000 in
theorem gX5_init_X1_init_n45 : GoodIn wsX5_init (wsX1_init) := ggX5_init_X1_init
set_option maxRecDepth 20000 in
theorem ggX5_init_X2_putText : GoodIn wsX5_init wsX2_putText := goodIn_r _ [70, 71, 72, 73, 74, 75, 76, 77, 78, 79, 80, 81, 82, 83, 84, 85, 86, 87, 88, 89, 90, 91, 92, 93, 94, 95, 96, 97, 98, 99, 100, 101, 102, 103, 104, 105, 106, 107, 108, 109, 110, 111, 112, 113, 114, 115, 116, 117, 118, 119, 120, 121, 122, 20, 123, 124, 59, 286, 287, 288, 289, 290, 291, 292, 293, 294, 295] (by decide +kernel) (by decide +kernel)
set_option maxRecDepth 20000 in
theorem gX5_init_X2_putText : GoodIn wsX5_init (wsV RX5 52 RX2 yX2_putText wsX2_putText) := goodIn_app (goodIn_of _ (by decide +kernel)) ggX5_init_X2_putText
set_option maxRecDepth 20000 in
theorem ggX5_init_J0_length_8abf5 : GoodIn wsX5_init wsJ0_length_8abf5 := goodIn_r _ [75, 76, 77, 78, 79, 74, 80, 81, 82] (by decide +kernel) (by decide +kernel)
set_option maxRecDepth 20000 in
theorem gX5_init_J0_length_8abf5 : GoodIn wsX5_init (wsV RX5 56 RJ0 yJ0_length_8abf5 wsJ0_length_8abf5) := goodIn_app (goodIn_of _ (by decide +kernel)) ggX5_init_J0_length_8abf5
set_option maxRecDepth 20000 in
theorem ggX5_init_X2_parseText : GoodIn wsX5_init wsX2_parseText := goodIn_r _ [129, 124, 130, 131, 132, 133, 134, 135, 60, 62, 136, 137, 138, 139, 140, 141, 6, 142, 143, 144, 145, 146, 147, 148, 149, 150, 20, 151, 152, 59, 153, 154, 155, 156, 157, 158, 159, 160, 71, 72, 73, 74, 75, 76, 77, 78, 79, 80, 81, 82, 83, 84, 85, 86, 87, 88, 89, 90, 91, 92, 93, 94, 95, 96, 97, 98, 99, 100, 101, 102, 103, 104, 105, 106, 107, 108, 109, 110, 111, 112, 113, 114, 115, 116, 117, 118, 119, 161, 162, 163, 164, 165, 166, 167, 168, 169, 170, 171, 172, 173, 174, 175, 176, 177, 178, 179, 180, 181, 182, 31, 32, 33, 35, 36, 37, 183, 184, 185, 186, 187, 188, 189, 190, 191, 192, 193, 194, 195, 38, 39, 40, 41, 42, 43, 196, 197, 198, 199, 200, 201, 202, 203, 204, 205, 206, 207, 208, 209, 210, 211, 212, 213, 214, 215, 216, 217, 218, 219, 220, 221, 222, 223, 224, 225, 226, 227, 228, 229, 230, 231, 232, 233, 234, 235, 236, 237, 238, 239, 240, 241, 242, 243, 244, 245, 246, 247, 248, 286, 287, 288, 289, 290, 291, 292, 293, 294, 295, 257, 258, 259, 260, 261, 262, 263, 264, 265, 266, 267, 268, 269, 270, 271, 272, 273] (by decide +kernel) (by decide +kernel)
set_option maxRecDepth 20000 in
theorem gX5_init_X2_parseText : GoodIn wsX5_init (wsV RX5 62 RX2 yX2_parseText wsX2_parseText) := goodIn_app (goodIn_of _ (by decide +kernel)) ggX5_init_X2_parseText
set_option maxRecDepth 20000 in
theorem ggX5_init_X4_copyFrom : GoodIn wsX5_init wsX4_copyFrom := goodIn_r _ [252, 143, 144, 145, 146, 147, 31, 253, 254, 255, 256, 32, 33, 35, 36, 37, 38, 39, 40, 41, 42, 43, 257, 258, 259, 260, 261, 262, 263, 264, 265, 266, 267, 268, 269, 270, 271, 272, 273] (by decide +kernel) (by decide +kernel)
set_option maxRecDepth 20000 in
theorem gX5_init_X4_copyFrom : GoodIn wsX5_init (wsV RX5 69 RX4 yX4_copyFrom wsX4_copyFrom) := goodIn_app (goodIn_of _ (by decide +kernel)) ggX5_init_X4_copyFrom
set_option maxRecDepth 20000 in
theorem ggX5_append_X2_hasRoom : GoodIn wsX5_append wsX2_hasRoom := goodIn_r _ [9, 10, 27, 28, 29, 30, 31, 32, 33, 34, 35, 36] (by decide +kernel) (by decide +kernel)
set_option maxRecDepth 20000 in
theorem gX5_append_X2_hasRoom : GoodIn wsX5_append (wsV RX5 73 RX2 yX2_hasRoom wsX2_hasRoom) := goodIn_app (goodIn_of _ (by decide +kernel)) ggX5_append_X2_hasRoom
set_option maxRecDepth 20000 in
theorem ggX5_append_X2_putInt : GoodIn wsX5_append wsX2_putInt := goodIn_r _ [14, 15, 16, 17, 8, 18, 10, 19, 27, 28, 29, 30, 31, 32, 33, 34, 35, 36] (by decide +kernel) (by decide +kernel)
set_option maxRecDepth 20000 in
theorem gX5_append_X2_putInt : GoodIn wsX5_append (wsV RX5 82 RX2 yX2_putInt wsX2_putInt) := goodIn_app (goodIn_of _ (by decide +kernel)) ggX5_append_X2_putInt
set_option maxRecDepth 20000 in
theorem ggX5_load_X2_parseText : GoodIn wsX5_load wsX2_parseText := goodIn_r _ [18, 19, 20, 21, 22, 23, 24, 25, 26, 27, 28, 29, 30, 31, 32, 33, 34, 35, 36, 37, 38, 39, 40, 41, 42, 43, 17, 44, 45, 46, 47, 48, 49, 50, 51, 52, 53, 54, 55, 56, 57, 58, 59, 60, 61, 62, 63, 64, 65, 66, 67, 68, 69, 70, 71, 72, 73, 74, 75, 76, 77, 78, 79, 80, 81, 82, 83, 84, 85, 86, 87, 88, 89, 90, 91, 92, 93, 94, 95, 96, 97, 98, 99, 100, 101, 102, 103, 104, 105, 106, 107, 108, 109, 110, 111, 112, 113, 114, 115, 116, 117, 118, 119, 120, 121, 122, 123, 124, 125, 126, 127, 128, 129, 130, 131, 132, 133, 134, 135, 136, 137, 138, 139, 140, 141, 142, 143, 144, 145, 146, 147, 148, 149, 150, 151, 152, 153, 154, 155, 156, 157, 158, 159, 160, 161, 162, 163, 164, 165, 166, 167, 168, 169, 170, 171, 172, 173, 174, 175, 176, 177, 178, 179, 180, 181, 182, 183, 184, 185, 186, 187, 188, 189, 190, 191, 192, 193, 194, 195, 196, 197, 198, 199, 200, 201, 202, 203, 225, 226, 227, 228, 229, 230, 231, 232, 233, 234, 237, 238, 239, 240, 241, 242, 243, 244, 245, 246, 247, 248, 249, 250, 251, 252, 253] (by decide +kernel) (by decide +kernel)
set_option maxRecDepth 20000 in
theorem gX5_load_X2_parseText : GoodIn wsX5_load (wsV RX5 62 RX2 yX2_parseText wsX2_parseText) := goodIn_app (goodIn_of _ (by decide +kernel)) ggX5_load_X2_parseText
set_option maxRecDepth 20000 in
theorem ggX5_load_X4_copyFrom : GoodIn wsX5_load wsX4_copyFrom := goodIn_r _ [207, 36, 37, 38, 39, 40, 126, 208, 209, 210, 211, 127, 128, 129, 130, 131, 145, 146, 147, 148, 149, 150, 237, 238, 239, 240, 241, 242, 243, 244, 245, 246, 247, 248, 249, 250, 251, 252, 253] (by decide +kernel) (by decide +kernel)
set_option maxRecDepth 20000 in
theorem gX5_load_X4_copyFrom : GoodIn wsX5_load (wsV RX5 69 RX4 yX4_copyFrom wsX4_copyFrom) := goodIn_app (goodIn_of _ (by decide +kernel)) ggX5_load_X4_copyFrom
set_option maxRecDepth 20000 in
theorem ggX5_load_X0_forget : GoodIn wsX5_load wsX0_forget := goodIn_r _ [216, 217, 254, 255, 256] (by decide +kernel) (by decide +kernel)
set_option maxRecDepth 20000 in
theorem gX5_load_X0_forget : GoodIn wsX5_load (wsV RX5 100 RX0 yX0_forget wsX0_forget) := goodIn_app (goodIn_of _ (by decide +kernel)) ggX5_load_X0_forget
set_option maxRecDepth 20000 in
theorem ggX5_lengthOf_X5_requireBlock : GoodIn wsX5_lengthOf wsX5_requireBlock := goodIn_ca (goodIn_r _ [7, 8, 9, 1, 10, 11, 12, 13, 14, 15, 16, 17, 18, 19, 20, 21, 22, 23, 24, 25, 26, 27, 28, 29, 30, 31, 32, 33, 34] (by decide +kernel) (by decide +kernel)) (goodIn_sub (fun _ h => List.mem_cons_of_mem _ (List.mem_append_right _ h)) (by decide +kernel))
set_option maxRecDepth 20000 in
theorem gX5_lengthOf_X5_requireBlock : GoodIn wsX5_lengthOf (wsV RX5 119 RX5 yX5_requireBlock wsX5_requireBlock) := goodIn_app (goodIn_of _ (by decide +kernel)) ggX5_lengthOf_X5_requireBlock
set_option maxRecDepth 20000 in
theorem ggX5_depthOf_X5_requireBlock : GoodIn wsX5_depthOf wsX5_requireBlock := goodIn_ca (goodIn_r _ [7, 8, 9, 1, 10, 11, 12, 13, 14, 15, 16, 17, 18, 19, 20, 21, 22, 23, 24, 25, 26, 27, 28, 29, 30, 31, 32, 33, 34] (by decide +kernel) (by decide +kernel)) (goodIn_sub (fun _ h => List.mem_cons_of_mem _ (List.mem_append_right _ h)) (by decide +kernel))
set_option maxRecDepth 20000 in
theorem gX5_depthOf_X5_requireBlock : GoodIn wsX5_depthOf (wsV RX5 119 RX5 yX5_requireBlock wsX5_requireBlock) := goodIn_app (goodIn_of _ (by decide +kernel)) ggX5_depthOf_X5_requireBlock
set_option maxRecDepth 20000 in
theorem ggX5_isBend_X5_requireBlock : GoodIn wsX5_isBend wsX5_requireBlock := goodIn_ca (goodIn_r _ [6, 7, 8, 1, 9, 16, 17, 18, 19, 20, 21, 22, 23, 24, 25, 26, 27, 28, 29, 30, 31, 32, 33, 34, 35, 36, 37, 38, 39] (by decide +kernel) (by decide +kernel)) (goodIn_sub (fun _ h => List.mem_cons_of_mem _ (List.mem_append_right _ h)) (by decide +kernel))
set_option maxRecDepth 20000 in
theorem gX5_isBend_X5_requireBlock : GoodIn wsX5_isBend (wsV RX5 119 RX5 yX5_requireBlock wsX5_requireBlock) := goodIn_app (goodIn_of _ (by decide +kernel)) ggX5_isBend_X5_requireBlock
set_option maxRecDepth 20000 in
theorem ggX5_isBend_X4_bends : GoodIn wsX5_isBend wsX4_bends := goodIn_r _ [14, 15, 23, 24, 25, 26, 27, 28, 29, 30, 31, 32, 33, 34, 35, 36, 37, 38, 39] (by decide +kernel) (by decide +kernel)
set_option maxRecDepth 20000 in
theorem gX5_isBend_X4_bends : GoodIn wsX5_isBend (wsV RX5 128 RX4 yX4_bends wsX4_bends) := goodIn_app (goodIn_of _ (by decide +kernel)) ggX5_isBend_X4_bends
set_option maxRecDepth 20000 in
theorem ggX5_limitOf_X5_requireBlock : GoodIn wsX5_limitOf wsX5_requireBlock := goodIn_ca (goodIn_r _ [6, 7, 8, 1, 9, 16, 17, 18, 19, 20, 21, 22, 23, 24, 25, 26, 27, 28, 29, 30, 31, 32, 33, 34, 35, 36, 37, 38, 39] (by decide +kernel) (by decide +kernel)) (goodIn_sub (fun _ h => List.mem_cons_of_mem _ (List.mem_append_right _ h)) (by decide +kernel))
set_option maxRecDepth 20000 in
theorem gX5_limitOf_X5_requireBlock : GoodIn wsX5_limitOf (wsV RX5 119 RX5 yX5_requireBlock wsX5_requireBlock) := goodIn_app (goodIn_of _ (by decide +kernel)) ggX5_limitOf_X5_requireBlock
set_option maxRecDepth 20000 in
theorem ggX5_limitOf_X4_speedLimit : GoodIn wsX5_limitOf wsX4_speedLimit := goodIn_r _ [14, 15, 23, 24, 25, 26, 27, 28, 29, 30, 31, 32, 33, 34, 35, 36, 37, 38, 39] (by decide +kernel) (by decide +kernel)
set_option maxRecDepth 20000 in
theorem gX5_limitOf_X4_speedLimit : GoodIn wsX5_limitOf (wsV RX5 131 RX4 yX4_speedLimit wsX4_speedLimit) := goodIn_app (goodIn_of _ (by decide +kernel)) ggX5_limitOf_X4_speedLimit
set_option maxRecDepth 20000 in
theorem ggX5_isClear_X5_requireBlock : GoodIn wsX5_isClear wsX5_requireBlock := goodIn_ca (goodIn_r _ [7, 8, 9, 1, 10, 11, 12, 13, 14, 15, 16, 17, 18, 19, 20, 21, 22, 23, 24, 25, 26, 27, 28, 29, 30, 31, 32, 33, 34] (by decide +kernel) (by decide +kernel)) (goodIn_sub (fun _ h => List.mem_cons_of_mem _ (List.mem_append_right _ h)) (by decide +kernel))
set_option maxRecDepth 20000 in
theorem gX5_isClear_X5_requireBlock : GoodIn wsX5_isClear (wsV RX5 119 RX5 yX5_requireBlock wsX5_requireBlock) := goodIn_app (goodIn_of _ (by decide +kernel)) ggX5_isClear_X5_requireBlock
set_option maxRecDepth 20000 in
theorem ggX5_trainIn_X5_requireBlock : GoodIn wsX5_trainIn wsX5_requireBlock := goodIn_ca (goodIn_r _ [7, 8, 9, 1, 10, 11, 12, 13, 14, 15, 16, 17, 18, 19, 20, 21, 22, 23, 24, 25, 26, 27, 28, 29, 30, 31, 32, 33, 34] (by decide +kernel) (by decide +kernel)) (goodIn_sub (fun _ h => List.mem_cons_of_mem _ (List.mem_append_right _ h)) (by decide +kernel))
set_option maxRecDepth 20000 in
theorem gX5_trainIn_X5_requireBlock : GoodIn wsX5_trainIn (wsV RX5 119 RX5 yX5_requireBlock wsX5_requireBlock) := goodIn_app (goodIn_of _ (by decide +kernel)) ggX5_trainIn_X5_requireBlock
set_option maxRecDepth 20000 in
theorem ggX5_lostIn_X5_requireBlock : GoodIn wsX5_lostIn wsX5_requireBlock := goodIn_ca (goodIn_r _ [7, 8, 9, 1, 10, 11, 12, 13, 14, 15, 16, 17, 18, 19, 20, 21, 22, 23, 24, 25, 26, 27, 28, 29, 30, 31, 32, 33, 34] (by decide +kernel) (by decide +kernel)) (goodIn_sub (fun _ h => List.mem_cons_of_mem _ (List.mem_append_right _ h)) (by decide +kernel))
set_option maxRecDepth 20000 in
theorem gX5_lostIn_X5_requireBlock : GoodIn wsX5_lostIn (wsV RX5 119 RX5 yX5_requireBlock wsX5_requireBlock) := goodIn_app (goodIn_of _ (by decide +kernel)) ggX5_lostIn_X5_requireBlock
set_option maxRecDepth 20000 in
theorem ggX5_departuresFrom_X5_requireBlock : GoodIn wsX5_departuresFrom wsX5_requireBlock := goodIn_ca (goodIn_r _ [7, 8, 9, 1, 10, 17, 18, 19, 20, 21, 22, 23, 24, 25, 26, 27, 28, 29, 30, 31, 32, 33, 34, 35, 36, 37, 38, 39, 40] (by decide +kernel) (by decide +kernel)) (goodIn_sub (fun _ h => List.mem_cons_of_mem _ (List.mem_append_right _ h)) (by decide +kernel))
set_option maxRecDepth 20000 in
theorem gX5_departuresFrom_X5_requireBlock : GoodIn wsX5_departuresFrom (wsV RX5 119 RX5 yX5_requireBlock wsX5_requireBlock) := goodIn_app (goodIn_of _ (by decide +kernel)) ggX5_departuresFrom_X5_requireBlock
set_option maxRecDepth 20000 in
theorem ggX5_departuresFrom_X4_passagesOf : GoodIn wsX5_departuresFrom wsX4_passagesOf := goodIn_r _ [15, 16, 24, 25, 26, 27, 28, 29, 30, 31, 32, 33, 34, 35, 36, 37, 38, 39, 40] (by decide +kernel) (by decide +kernel)
set_option maxRecDepth 20000 in
theorem gX5_departuresFrom_X4_passagesOf : GoodIn wsX5_departuresFrom (wsV RX5 148 RX4 yX4_passagesOf wsX4_passagesOf) := goodIn_app (goodIn_of _ (by decide +kernel)) ggX5_departuresFrom_X4_passagesOf
set_option maxRecDepth 20000 in
theorem ggX5_obstacle_X5_requireBlock : GoodIn wsX5_obstacle wsX5_requireBlock := goodIn_ca (goodIn_r _ [6, 7, 8, 1, 9, 32, 33, 34, 35, 36, 37, 38, 39, 40, 41, 42, 43, 44, 45, 46, 47, 48, 49, 50, 51, 52, 53, 54, 55] (by decide +kernel) (by decide +kernel)) (goodIn_sub (fun _ h => List.mem_cons_of_mem _ (List.mem_append_right _ h)) (by decide +kernel))
set_option maxRecDepth 20000 in
theorem gX5_obstacle_X5_requireBlock : GoodIn wsX5_obstacle (wsV RX5 119 RX5 yX5_requireBlock wsX5_requireBlock) := goodIn_app (goodIn_of _ (by decide +kernel)) ggX5_obstacle_X5_requireBlock
set_option maxRecDepth 20000 in
theorem ggX5_obstacle_X4_leverObstacle : GoodIn wsX5_obstacle wsX4_leverObstacle := goodIn_r _ [14, 15, 16, 17, 18, 19, 20, 13, 21, 22, 23, 24, 25, 26, 27, 28, 29, 30, 31, 39, 40, 41, 42, 43, 44, 45, 46, 47, 48, 49, 50, 51, 52, 53, 54, 55] (by decide +kernel) (by decide +kernel)
set_option maxRecDepth 20000 in
theorem gX5_obstacle_X4_leverObstacle : GoodIn wsX5_obstacle (wsV RX5 152 RX4 yX4_leverObstacle wsX4_leverObstacle) := goodIn_app (goodIn_of _ (by decide +kernel)) ggX5_obstacle_X4_leverObstacle
set_option maxRecDepth 20000 in
theorem ggX5_freeLevers_X4_leverObstacle : GoodIn wsX5_freeLevers wsX4_leverObstacle := goodIn_r _ [7, 8, 9, 10, 11, 12, 13, 6, 14, 15, 16, 17, 18, 19, 20, 21, 22, 23, 24, 32, 33, 34, 35, 36, 37, 38, 39, 40, 41, 42, 43, 44, 45, 46, 47, 48] (by decide +kernel) (by decide +kernel)
set_option maxRecDepth 20000 in
theorem gX5_freeLevers_X4_leverObstacle : GoodIn wsX5_freeLevers (wsV RX5 152 RX4 yX4_leverObstacle wsX4_leverObstacle) := goodIn_app (goodIn_of _ (by decide +kernel)) ggX5_freeLevers_X4_leverObstacle
set_option maxRecDepth 20000 in
theorem ggX5_emptyBlocks_X4_occupied : GoodIn wsX5_emptyBlocks wsX4_occupied := goodIn_r _ [7, 8, 9, 17, 18, 19, 20, 21, 22, 23, 24, 25, 26, 27, 28, 29, 30, 31, 32, 33] (by decide +kernel) (by decide +kernel)
set_option maxRecDepth 20000 in
theorem gX5_emptyBlocks_X4_occupied : GoodIn wsX5_emptyBlocks (wsV RX5 155 RX4 yX4_occupied wsX4_occupied) := goodIn_app (goodIn_of _ (by decide +kernel)) ggX5_emptyBlocks_X4_occupied
set_option maxRecDepth 20000 in
theorem ggX5_differentDepths_J6_bitCount_0f7a4 : GoodIn wsX5_differentDepths wsJ6_bitCount_0f7a4 := goodIn_r _ [7, 8, 9, 10] (by decide +kernel) (by decide +kernel)
set_option maxRecDepth 20000 in
theorem gX5_differentDepths_J6_bitCount_0f7a4 : GoodIn wsX5_differentDepths (va_wsS RX5 158 yJ6_bitCount_0f7a4 wsJ6_bitCount_0f7a4) := goodIn_app (goodIn_of _ (by decide +kernel)) ggX5_differentDepths_J6_bitCount_0f7a4
set_option maxRecDepth 20000 in
theorem ggX5_blockOf_X5_requireTrain : GoodIn wsX5_blockOf wsX5_requireTrain := goodIn_ca (goodIn_r _ [7, 8, 9, 1, 10, 11, 12, 13, 14, 15, 16, 17, 18, 19, 20, 21, 22, 23, 24, 25, 26, 27, 28, 29, 30, 31, 32, 33, 34] (by decide +kernel) (by decide +kernel)) (goodIn_sub (fun _ h => List.mem_cons_of_mem _ (List.mem_append_right _ h)) (by decide +kernel))
set_option maxRecDepth 20000 in
theorem gX5_blockOf_X5_requireTrain : GoodIn wsX5_blockOf (wsV RX5 163 RX5 yX5_requireTrain wsX5_requireTrain) := goodIn_app (goodIn_of _ (by decide +kernel)) ggX5_blockOf_X5_requireTrain
set_option maxRecDepth 20000 in
theorem ggX5_positionOf_X5_requireTrain : GoodIn wsX5_positionOf wsX5_requireTrain := goodIn_ca (goodIn_r _ [7, 8, 9, 1, 10, 11, 12, 13, 14, 15, 16, 17, 18, 19, 20, 21, 22, 23, 24, 25, 26, 27, 28, 29, 30, 31, 32, 33, 34] (by decide +kernel) (by decide +kernel)) (goodIn_sub (fun _ h => List.mem_cons_of_mem _ (List.mem_append_right _ h)) (by decide +kernel))
set_option maxRecDepth 20000 in
theorem gX5_positionOf_X5_requireTrain : GoodIn wsX5_positionOf (wsV RX5 163 RX5 yX5_requireTrain wsX5_requireTrain) := goodIn_app (goodIn_of _ (by decide +kernel)) ggX5_positionOf_X5_requireTrain
set_option maxRecDepth 20000 in
theorem ggX5_wagonsOf_X5_requireTrain : GoodIn wsX5_wagonsOf wsX5_requireTrain := goodIn_ca (goodIn_r _ [7, 8, 9, 1, 10, 11, 12, 13, 14, 15, 16, 17, 18, 19, 20, 21, 22, 23, 24, 25, 26, 27, 28, 29, 30, 31, 32, 33, 34] (by decide +kernel) (by decide +kernel)) (goodIn_sub (fun _ h => List.mem_cons_of_mem _ (List.mem_append_right _ h)) (by decide +kernel))
set_option maxRecDepth 20000 in
theorem gX5_wagonsOf_X5_requireTrain : GoodIn wsX5_wagonsOf (wsV RX5 163 RX5 yX5_requireTrain wsX5_requireTrain) := goodIn_app (goodIn_of _ (by decide +kernel)) ggX5_wagonsOf_X5_requireTrain
set_option maxRecDepth 20000 in
theorem ggX5_topSpeedOf_X5_requireTrain : GoodIn wsX5_topSpeedOf wsX5_requireTrain := goodIn_ca (goodIn_r _ [7, 8, 9, 1, 10, 11, 12, 13, 14, 15, 16, 17, 18, 19, 20, 21, 22, 23, 24, 25, 26, 27, 28, 29, 30, 31, 32, 33, 34] (by decide +kernel) (by decide +kernel)) (goodIn_sub (fun _ h => List.mem_cons_of_mem _ (List.mem_append_right _ h)) (by decide +kernel))
set_option maxRecDepth 20000 in
theorem gX5_topSpeedOf_X5_requireTrain : GoodIn wsX5_topSpeedOf (wsV RX5 163 RX5 yX5_requireTrain wsX5_requireTrain) := goodIn_app (goodIn_of _ (by decide +kernel)) ggX5_topSpeedOf_X5_requireTrain
set_option maxRecDepth 20000 in
theorem ggX5_speedOf_X5_requireTrain : GoodIn wsX5_speedOf wsX5_requireTrain := goodIn_ca (goodIn_r _ [6, 7, 8, 1, 9, 26, 27, 28, 29, 30, 31, 32, 33, 34, 35, 36, 37, 38, 39, 40, 41, 42, 43, 44, 45, 46, 47, 48, 49] (by decide +kernel) (by decide +kernel)) (goodIn_sub (fun _ h => List.mem_cons_of_mem _ (List.mem_append_right _ h)) (by decide +kernel))
set_option maxRecDepth 20000 in
theorem gX5_speedOf_X5_requireTrain : GoodIn wsX5_speedOf (wsV RX5 163 RX5 yX5_requireTrain wsX5_requireTrain) := goodIn_app (goodIn_of _ (by decide +kernel)) ggX5_speedOf_X5_requireTrain
set_option maxRecDepth 20000 in
theorem ggX5_speedOf_X4_speedNow : GoodIn wsX5_speedOf wsX4_speedNow := goodIn_r _ [14, 15, 16, 17, 18, 19, 20, 21, 22, 23, 13, 24, 25, 33, 34, 35, 36, 37, 38, 39, 40, 41, 42, 43, 44, 45, 46, 47, 48, 49] (by decide +kernel) (by decide +kernel)
set_option maxRecDepth 20000 in
theorem gX5_speedOf_X4_speedNow : GoodIn wsX5_speedOf (wsV RX5 178 RX4 yX4_speedNow wsX4_speedNow) := goodIn_app (goodIn_of _ (by decide +kernel)) ggX5_speedOf_X4_speedNow
set_option maxRecDepth 20000 in
theorem ggX5_waitsOf_X5_requireTrain : GoodIn wsX5_waitsOf wsX5_requireTrain := goodIn_ca (goodIn_r _ [7, 8, 9, 1, 10, 11, 12, 13, 14, 15, 16, 17, 18, 19, 20, 21, 22, 23, 24, 25, 26, 27, 28, 29, 30, 31, 32, 33, 34] (by decide +kernel) (by decide +kernel)) (goodIn_sub (fun _ h => List.mem_cons_of_mem _ (List.mem_append_right _ h)) (by decide +kernel))
set_option maxRecDepth 20000 in
theorem gX5_waitsOf_X5_requireTrain : GoodIn wsX5_waitsOf (wsV RX5 163 RX5 yX5_requireTrain wsX5_requireTrain) := goodIn_app (goodIn_of _ (by decide +kernel)) ggX5_waitsOf_X5_requireTrain
set_option maxRecDepth 20000 in
theorem ggX5_passages_X5_requireTrain : GoodIn wsX5_passages wsX5_requireTrain := goodIn_ca (goodIn_r _ [6, 7, 8, 1, 9, 21, 22, 23, 24, 25, 26, 27, 28, 29, 30, 31, 32, 33, 34, 35, 36, 37, 38, 39, 40, 41, 42, 43, 44] (by decide +kernel) (by decide +kernel)) (goodIn_sub (fun _ h => List.mem_cons_of_mem _ (List.mem_append_right _ h)) (by decide +kernel))
set_option maxRecDepth 20000 in
theorem gX5_passages_X5_requireTrain : GoodIn wsX5_passages (wsV RX5 163 RX5 yX5_requireTrain wsX5_requireTrain) := goodIn_app (goodIn_of _ (by decide +kernel)) ggX5_passages_X5_requireTrain
set_option maxRecDepth 20000 in
theorem ggX5_passages_X5_requireBlock : GoodIn wsX5_passages wsX5_requireBlock := goodIn_ca (goodIn_r _ [13, 7, 8, 1, 14, 21, 22, 23, 24, 25, 26, 27, 28, 29, 30, 31, 32, 33, 34, 35, 36, 37, 38, 39, 40, 41, 42, 43, 44] (by decide +kernel) (by decide +kernel)) (goodIn_sub (fun _ h => List.mem_cons_of_mem _ (List.mem_append_right _ h)) (by decide +kernel))
set_option maxRecDepth 20000 in
theorem gX5_passages_X5_requireBlock : GoodIn wsX5_passages (wsV RX5 119 RX5 yX5_requireBlock wsX5_requireBlock) := goodIn_app (goodIn_of _ (by decide +kernel)) ggX5_passages_X5_requireBlock
set_option maxRecDepth 20000 in
theorem ggX5_passages_X4_passagesOf : GoodIn wsX5_passages wsX4_passagesOf := goodIn_r _ [19, 20, 28, 29, 30, 31, 32, 33, 34, 35, 36, 37, 38, 39, 40, 41, 42, 43, 44] (by decide +kernel) (by decide +kernel)
set_option maxRecDepth 20000 in
theorem gX5_passages_X4_passagesOf : GoodIn wsX5_passages (wsV RX5 148 RX4 yX4_passagesOf wsX4_passagesOf) := goodIn_app (goodIn_of _ (by decide +kernel)) ggX5_passages_X4_passagesOf
set_option maxRecDepth 20000 in
theorem ggX5_differentPassages_X4_passagesOf : GoodIn wsX5_differentPassages wsX4_passagesOf := goodIn_r _ [8, 9, 17, 18, 19, 20, 21, 22, 23, 24, 25, 26, 27, 28, 29, 30, 31, 32, 33] (by decide +kernel) (by decide +kernel)
set_option maxRecDepth 20000 in
theorem gX5_differentPassages_X4_passagesOf : GoodIn wsX5_differentPassages (wsV RX5 148 RX4 yX4_passagesOf wsX4_passagesOf) := goodIn_app (goodIn_of _ (by decide +kernel)) ggX5_differentPassages_X4_passagesOf
set_option maxRecDepth 20000 in
theorem ggX5_ticksToEnd_X5_requireTrain : GoodIn wsX5_ticksToEnd wsX5_requireTrain := goodIn_ca (goodIn_r _ [9, 10, 11, 1, 12, 29, 30, 31, 32, 33, 34, 35, 36, 37, 38, 39, 40, 41, 42, 43, 44, 45, 46, 47, 48, 49, 50, 51, 52] (by decide +kernel) (by decide +kernel)) (goodIn_sub (fun _ h => List.mem_cons_of_mem _ (List.mem_append_right _ h)) (by decide +kernel))
set_option maxRecDepth 20000 in
theorem gX5_ticksToEnd_X5_requireTrain : GoodIn wsX5_ticksToEnd (wsV RX5 163 RX5 yX5_requireTrain wsX5_requireTrain) := goodIn_app (goodIn_of _ (by decide +kernel)) ggX5_ticksToEnd_X5_requireTrain
set_option maxRecDepth 20000 in
theorem ggX5_ticksToEnd_X4_speedNow : GoodIn wsX5_ticksToEnd wsX4_speedNow := goodIn_r _ [17, 18, 19, 20, 21, 22, 23, 24, 25, 26, 16, 27, 28, 36, 37, 38, 39, 40, 41, 42, 43, 44, 45, 46, 47, 48, 49, 50, 51, 52] (by decide +kernel) (by decide +kernel)
set_option maxRecDepth 20000 in
theorem gX5_ticksToEnd_X4_speedNow : GoodIn wsX5_ticksToEnd (wsV RX5 178 RX4 yX4_speedNow wsX4_speedNow) := goodIn_app (goodIn_of _ (by decide +kernel)) ggX5_ticksToEnd_X4_speedNow
set_option maxRecDepth 20000 in
theorem ggX5_trainAhead_X5_requireTrain : GoodIn wsX5_trainAhead wsX5_requireTrain := goodIn_ca (goodIn_r _ [9, 10, 11, 1, 12, 19, 20, 21, 22, 23, 24, 25, 26, 27, 28, 29, 30, 31, 32, 33, 34, 35, 36, 37, 38, 39, 40, 41, 42] (by decide +kernel) (by decide +kernel)) (goodIn_sub (fun _ h => List.mem_cons_of_mem _ (List.mem_append_right _ h)) (by decide +kernel))
set_option maxRecDepth 20000 in
theorem gX5_trainAhead_X5_requireTrain : GoodIn wsX5_trainAhead (wsV RX5 163 RX5 yX5_requireTrain wsX5_requireTrain) := goodIn_app (goodIn_of _ (by decide +kernel)) ggX5_trainAhead_X5_requireTrain
set_option maxRecDepth 20000 in
theorem ggX5_trainAhead_X4_nextBlock : GoodIn wsX5_trainAhead wsX4_nextBlock := goodIn_r _ [17, 18, 26, 27, 28, 29, 30, 31, 32, 33, 34, 35, 36, 37, 38, 39, 40, 41, 42] (by decide +kernel) (by decide +kernel)
set_option maxRecDepth 20000 in
theorem gX5_trainAhead_X4_nextBlock : GoodIn wsX5_trainAhead (wsV RX5 184 RX4 yX4_nextBlock wsX4_nextBlock) := goodIn_app (goodIn_of _ (by decide +kernel)) ggX5_trainAhead_X4_nextBlock
set_option maxRecDepth 20000 in
theorem ggX5_clearBlocksAhead_X5_requireTrain : GoodIn wsX5_clearBlocksAhead wsX5_requireTrain := goodIn_ca (goodIn_r _ [8, 9, 10, 1, 11, 24, 25, 26, 27, 28, 29, 30, 31, 32, 33, 34, 35, 36, 37, 38, 39, 40, 41, 42, 43, 44, 45, 46, 47] (by decide +kernel) (by decide +kernel)) (goodIn_sub (fun _ h => List.mem_cons_of_mem _ (List.mem_append_right _ h)) (by decide +kernel))
set_option maxRecDepth 20000 in
theorem gX5_clearBlocksAhead_X5_requireTrain : GoodIn wsX5_clearBlocksAhead (wsV RX5 163 RX5 yX5_requireTrain wsX5_requireTrain) := goodIn_app (goodIn_of _ (by decide +kernel)) ggX5_clearBlocksAhead_X5_requireTrain
set_option maxRecDepth 20000 in
theorem ggX5_clearBlocksAhead_X4_nextBlock : GoodIn wsX5_clearBlocksAhead wsX4_nextBlock := goodIn_r _ [16, 17, 31, 32, 33, 34, 35, 36, 37, 38, 39, 40, 41, 42, 43, 44, 45, 46, 47] (by decide +kernel) (by decide +kernel)
set_option maxRecDepth 20000 in
theorem gX5_clearBlocksAhead_X4_nextBlock : GoodIn wsX5_clearBlocksAhead (wsV RX5 184 RX4 yX4_nextBlock wsX4_nextBlock) := goodIn_app (goodIn_of _ (by decide +kernel)) ggX5_clearBlocksAhead_X4_nextBlock
set_option maxRecDepth 20000 in
theorem ggX5_clearBlocksAhead_X4_occupied : GoodIn wsX5_clearBlocksAhead wsX4_occupied := goodIn_r _ [21, 22, 23, 31, 32, 33, 34, 35, 36, 37, 38, 39, 40, 41, 42, 43, 44, 45, 46, 47] (by decide +kernel) (by decide +kernel)
set_option maxRecDepth 20000 in
theorem gX5_clearBlocksAhead_X4_occupied : GoodIn wsX5_clearBlocksAhead (wsV RX5 155 RX4 yX4_occupied wsX4_occupied) := goodIn_app (goodIn_of _ (by decide +kernel)) ggX5_clearBlocksAhead_X4_occupied
set_option maxRecDepth 20000 in
theorem ggX5_canEnter_X5_requireTrain : GoodIn wsX5_canEnter wsX5_requireTrain := goodIn_ca (goodIn_r _ [7, 8, 9, 1, 10, 28, 29, 30, 31, 32, 33, 34, 35, 36, 37, 38, 39, 40, 41, 42, 43, 44, 45, 46, 47, 48, 49, 50, 51] (by decide +kernel) (by decide +kernel)) (goodIn_sub (fun _ h => List.mem_cons_of_mem _ (List.mem_append_right _ h)) (by decide +kernel))
set_option maxRecDepth 20000 in
theorem gX5_canEnter_X5_requireTrain : GoodIn wsX5_canEnter (wsV RX5 163 RX5 yX5_requireTrain wsX5_requireTrain) := goodIn_app (goodIn_of _ (by decide +kernel)) ggX5_canEnter_X5_requireTrain
set_option maxRecDepth 20000 in
theorem ggX5_canEnter_X4_nextBlock : GoodIn wsX5_canEnter wsX4_nextBlock := goodIn_r _ [15, 16, 35, 36, 37, 38, 39, 40, 41, 42, 43, 44, 45, 46, 47, 48, 49, 50, 51] (by decide +kernel) (by decide +kernel)
set_option maxRecDepth 20000 in
theorem gX5_canEnter_X4_nextBlock : GoodIn wsX5_canEnter (wsV RX5 184 RX4 yX4_nextBlock wsX4_nextBlock) := goodIn_app (goodIn_of _ (by decide +kernel)) ggX5_canEnter_X4_nextBlock
set_option maxRecDepth 20000 in
theorem ggX5_canEnter_X4_opensTo : GoodIn wsX5_canEnter wsX4_opensTo := goodIn_r _ [20, 21, 22, 23, 24, 14, 25, 26, 27, 35, 36, 37, 38, 39, 40, 41, 42, 43, 44, 45, 46, 47, 48, 49, 50, 51] (by decide +kernel) (by decide +kernel)
set_option maxRecDepth 20000 in
theorem gX5_canEnter_X4_opensTo : GoodIn wsX5_canEnter (wsV RX5 187 RX4 yX4_opensTo wsX4_opensTo) := goodIn_app (goodIn_of _ (by decide +kernel)) ggX5_canEnter_X4_opensTo
set_option maxRecDepth 20000 in
theorem ggX5_blockAfter_X5_requireTrain : GoodIn wsX5_blockAfter wsX5_requireTrain := goodIn_ca (goodIn_r _ [10, 11, 12, 4, 13, 76, 77, 78, 79, 80, 81, 82, 83, 84, 85, 86, 87, 88, 89, 90, 91, 92, 93, 94, 95, 96, 97, 98, 99] (by decide +kernel) (by decide +kernel)) (goodIn_sub (fun _ h => List.mem_cons_of_mem _ (List.mem_append_right _ h)) (by decide +kernel))
set_option maxRecDepth 20000 in
theorem gX5_blockAfter_X5_requireTrain : GoodIn wsX5_blockAfter (wsV RX5 163 RX5 yX5_requireTrain wsX5_requireTrain) := goodIn_app (goodIn_of _ (by decide +kernel)) ggX5_blockAfter_X5_requireTrain
set_option maxRecDepth 20000 in
theorem ggX5_blockAfter_X4_copyFrom : GoodIn wsX5_blockAfter wsX4_copyFrom := goodIn_r _ [18, 19, 20, 21, 22, 23, 24, 25, 26, 27, 28, 29, 30, 31, 32, 33, 34, 35, 36, 37, 38, 39, 83, 84, 85, 86, 87, 88, 89, 90, 91, 92, 93, 94, 95, 96, 97, 98, 99] (by decide +kernel) (by decide +kernel)
set_option maxRecDepth 20000 in
theorem gX5_blockAfter_X4_copyFrom : GoodIn wsX5_blockAfter (wsV RX5 69 RX4 yX4_copyFrom wsX4_copyFrom) := goodIn_app (goodIn_of _ (by decide +kernel)) ggX5_blockAfter_X4_copyFrom
set_option maxRecDepth 20000 in
theorem ggX5_blockAfter_X4_pass : GoodIn wsX5_blockAfter wsX4_pass := goodIn_r _ [43, 19, 21, 44, 45, 46, 17, 47, 34, 35, 24, 48, 49, 50, 51, 38, 33, 31, 52, 53, 54, 55, 37, 56, 57, 58, 59, 30, 60, 61, 62, 63, 20, 64, 65, 66, 67, 68, 69, 70, 71, 32, 72, 73, 74, 75, 29, 36, 39, 83, 84, 85, 86, 87, 88, 89, 90, 91, 92, 93, 94, 95, 96, 97, 98, 99] (by decide +kernel) (by decide +kernel)
set_option maxRecDepth 20000 in
theorem gX5_blockAfter_X4_pass : GoodIn wsX5_blockAfter (wsV RX5 192 RX4 yX4_pass wsX4_pass) := goodIn_app (goodIn_of _ (by decide +kernel)) ggX5_blockAfter_X4_pass
set_option maxRecDepth 20000 in
theorem ggX5_ticksUntilWait_X5_requireTrain : GoodIn wsX5_ticksUntilWait wsX5_requireTrain := goodIn_ca (goodIn_r _ [8, 9, 10, 2, 11, 74, 75, 76, 77, 78, 79, 80, 81, 82, 83, 84, 85, 86, 87, 88, 89, 90, 91, 92, 93, 94, 95, 96, 97] (by decide +kernel) (by decide +kernel)) (goodIn_sub (fun _ h => List.mem_cons_of_mem _ (List.mem_append_right _ h)) (by decide +kernel))
set_option maxRecDepth 20000 in
theorem gX5_ticksUntilWait_X5_requireTrain : GoodIn wsX5_ticksUntilWait (wsV RX5 163 RX5 yX5_requireTrain wsX5_requireTrain) := goodIn_app (goodIn_of _ (by decide +kernel)) ggX5_ticksUntilWait_X5_requireTrain
set_option maxRecDepth 20000 in
theorem ggX5_ticksUntilWait_X4_copyFrom : GoodIn wsX5_ticksUntilWait wsX4_copyFrom := goodIn_r _ [16, 17, 18, 19, 20, 21, 22, 23, 24, 25, 26, 27, 28, 29, 30, 31, 32, 33, 34, 35, 36, 37, 81, 82, 83, 84, 85, 86, 87, 88, 89, 90, 91, 92, 93, 94, 95, 96, 97] (by decide +kernel) (by decide +kernel)
set_option maxRecDepth 20000 in
theorem gX5_ticksUntilWait_X4_copyFrom : GoodIn wsX5_ticksUntilWait (wsV RX5 69 RX4 yX4_copyFrom wsX4_copyFrom) := goodIn_app (goodIn_of _ (by decide +kernel)) ggX5_ticksUntilWait_X4_copyFrom
set_option maxRecDepth 20000 in
theorem ggX5_ticksUntilWait_X4_pass : GoodIn wsX5_ticksUntilWait wsX4_pass := goodIn_r _ [41, 17, 19, 42, 43, 44, 15, 45, 32, 33, 22, 46, 47, 48, 49, 36, 31, 29, 50, 51, 52, 53, 35, 54, 55, 56, 57, 28, 58, 59, 60, 61, 18, 62, 63, 64, 65, 66, 67, 68, 69, 30, 70, 71, 72, 73, 27, 34, 37, 81, 82, 83, 84, 85, 86, 87, 88, 89, 90, 91, 92, 93, 94, 95, 96, 97] (by decide +kernel) (by decide +kernel)
set_option maxRecDepth 20000 in
theorem gX5_ticksUntilWait_X4_pass : GoodIn wsX5_ticksUntilWait (wsV RX5 192 RX4 yX4_pass wsX4_pass) := goodIn_app (goodIn_of _ (by decide +kernel)) ggX5_ticksUntilWait_X4_pass
set_option maxRecDepth 20000 in
theorem ggX5_totalWagons_X4_sumOfWagons : GoodIn wsX5_totalWagons wsX4_sumOfWagons := goodIn_r _ [6, 7, 8, 16, 17, 18, 19, 20, 21, 22, 23, 24, 25, 26, 27, 28, 29, 30, 31, 32] (by decide +kernel) (by decide +kernel)
set_option maxRecDepth 20000 in
theorem gX5_totalWagons_X4_sumOfWagons : GoodIn wsX5_totalWagons (wsV RX5 195 RX4 yX4_sumOfWagons wsX4_sumOfWagons) := goodIn_app (goodIn_of _ (by decide +kernel)) ggX5_totalWagons_X4_sumOfWagons
set_option maxRecDepth 20000 in
theorem ggX5_lostWagons_X4_sumOfLost : GoodIn wsX5_lostWagons wsX4_sumOfLost := goodIn_r _ [6, 7, 8, 16, 17, 18, 19, 20, 21, 22, 23, 24, 25, 26, 27, 28, 29, 30, 31, 32] (by decide +kernel) (by decide +kernel)
set_option maxRecDepth 20000 in
theorem gX5_lostWagons_X4_sumOfLost : GoodIn wsX5_lostWagons (wsV RX5 198 RX4 yX4_sumOfLost wsX4_sumOfLost) := goodIn_app (goodIn_of _ (by decide +kernel)) ggX5_lostWagons_X4_sumOfLost
set_option maxRecDepth 20000 in
theorem ggX5_wagonDifference_X4_sumOfWagons : GoodIn wsX5_wagonDifference wsX4_sumOfWagons := goodIn_r _ [12, 13, 14, 28, 29, 30, 31, 32, 33, 34, 35, 36, 37, 38, 39, 40, 41, 42, 43, 44] (by decide +kernel) (by decide +kernel)
set_option maxRecDepth 20000 in
theorem gX5_wagonDifference_X4_sumOfWagons : GoodIn wsX5_wagonDifference (wsV RX5 195 RX4 yX4_sumOfWagons wsX4_sumOfWagons) := goodIn_app (goodIn_of _ (by decide +kernel)) ggX5_wagonDifference_X4_sumOfWagons
set_option maxRecDepth 20000 in
theorem ggX5_wagonDifference_X4_sumOfLost : GoodIn wsX5_wagonDifference wsX4_sumOfLost := goodIn_r _ [18, 19, 20, 28, 29, 30, 31, 32, 33, 34, 35, 36, 37, 38, 39, 40, 41, 42, 43, 44] (by decide +kernel) (by decide +kernel)
set_option maxRecDepth 20000 in
theorem gX5_wagonDifference_X4_sumOfLost : GoodIn wsX5_wagonDifference (wsV RX5 198 RX4 yX4_sumOfLost wsX4_sumOfLost) := goodIn_app (goodIn_of _ (by decide +kernel)) ggX5_wagonDifference_X4_sumOfLost
set_option maxRecDepth 20000 in
theorem ggX5_advance_X0_record : GoodIn wsX5_advance wsX0_record := goodIn_r _ [12, 13, 14, 15, 16, 17, 18, 19, 20, 21, 22, 23, 24, 25, 26, 27, 28, 29, 30, 31, 32, 33, 34, 35, 36, 37, 38, 39, 40, 41, 42, 43, 44, 45, 103, 104, 105, 86, 87, 88, 89, 90, 91, 92, 93, 94, 95, 96, 97, 98, 99, 100, 101, 102] (by decide +kernel) (by decide +kernel)
set_option maxRecDepth 20000 in
theorem gX5_advance_X0_record : GoodIn wsX5_advance (wsV RX5 214 RX0 yX0_record wsX0_record) := goodIn_app (goodIn_of _ (by decide +kernel)) ggX5_advance_X0_record
set_option maxRecDepth 20000 in
theorem ggX5_advance_X4_pass : GoodIn wsX5_advance wsX4_pass := goodIn_r _ [49, 25, 27, 50, 51, 52, 23, 53, 40, 41, 30, 54, 17, 18, 19, 44, 39, 37, 55, 56, 57, 58, 43, 59, 60, 61, 62, 36, 63, 64, 65, 66, 26, 67, 68, 69, 70, 71, 72, 73, 74, 38, 75, 76, 77, 78, 35, 42, 45, 86, 87, 88, 89, 90, 91, 92, 93, 94, 95, 96, 97, 98, 99, 100, 101, 102] (by decide +kernel) (by decide +kernel)
set_option maxRecDepth 20000 in
theorem gX5_advance_X4_pass : GoodIn wsX5_advance (wsV RX5 192 RX4 yX4_pass wsX4_pass) := goodIn_app (goodIn_of _ (by decide +kernel)) ggX5_advance_X4_pass
set_option maxRecDepth 20000 in
theorem ggX5_pull_X5_requireBlock : GoodIn wsX5_pull wsX5_requireBlock := goodIn_ca (goodIn_r _ [10, 11, 12, 3, 13, 72, 73, 74, 75, 76, 77, 78, 79, 80, 81, 82, 83, 84, 85, 86, 87, 88, 89, 90, 91, 92, 93, 94, 95] (by decide +kernel) (by decide +kernel)) (goodIn_sub (fun _ h => List.mem_cons_of_mem _ (List.mem_append_right _ h)) (by decide +kernel))
set_option maxRecDepth 20000 in
theorem gX5_pull_X5_requireBlock : GoodIn wsX5_pull (wsV RX5 119 RX5 yX5_requireBlock wsX5_requireBlock) := goodIn_app (goodIn_of _ (by decide +kernel)) ggX5_pull_X5_requireBlock
set_option maxRecDepth 20000 in
theorem ggX5_pull_X4_leverObstacle : GoodIn wsX5_pull wsX4_leverObstacle := goodIn_r _ [18, 19, 20, 21, 22, 23, 24, 17, 25, 26, 27, 28, 29, 30, 31, 32, 33, 34, 35, 79, 80, 81, 82, 83, 84, 85, 86, 87, 88, 89, 90, 91, 92, 93, 94, 95] (by decide +kernel) (by decide +kernel)
set_option maxRecDepth 20000 in
theorem gX5_pull_X4_leverObstacle : GoodIn wsX5_pull (wsV RX5 152 RX4 yX4_leverObstacle wsX4_leverObstacle) := goodIn_app (goodIn_of _ (by decide +kernel)) ggX5_pull_X4_leverObstacle
set_option maxRecDepth 20000 in
theorem ggX5_pull_X0_record : GoodIn wsX5_pull wsX0_record := goodIn_r _ [40, 41, 42, 43, 44, 45, 46, 47, 48, 49, 50, 17, 51, 52, 31, 53, 54, 55, 56, 57, 58, 59, 60, 61, 26, 21, 20, 19, 62, 63, 64, 65, 66, 67, 96, 97, 98, 79, 80, 81, 82, 83, 84, 85, 86, 87, 88, 89, 90, 91, 92, 93, 94, 95] (by decide +kernel) (by decide +kernel)
set_option maxRecDepth 20000 in
theorem gX5_pull_X0_record : GoodIn wsX5_pull (wsV RX5 214 RX0 yX0_record wsX0_record) := goodIn_app (goodIn_of _ (by decide +kernel)) ggX5_pull_X0_record
set_option maxRecDepth 20000 in
theorem ggX5_pull_X4_clearSignals : GoodIn wsX5_pull wsX4_clearSignals := goodIn_r _ [71, 31, 21, 79, 80, 81, 82, 83, 84, 85, 86, 87, 88, 89, 90, 91, 92, 93, 94, 95] (by decide +kernel) (by decide +kernel)
set_option maxRecDepth 20000 in
theorem gX5_pull_X4_clearSignals : GoodIn wsX5_pull (wsV RX5 219 RX4 yX4_clearSignals wsX4_clearSignals) := goodIn_app (goodIn_of _ (by decide +kernel)) ggX5_pull_X4_clearSignals
set_option maxRecDepth 20000 in
theorem ggX5_setDanger_X5_requireBlock : GoodIn wsX5_setDanger wsX5_requireBlock := goodIn_ca (goodIn_r _ [10, 11, 12, 3, 13, 56, 57, 58, 59, 60, 61, 62, 63, 64, 65, 66, 67, 68, 69, 70, 71, 72, 73, 74, 75, 76, 77, 78, 79] (by decide +kernel) (by decide +kernel)) (goodIn_sub (fun _ h => List.mem_cons_of_mem _ (List.mem_append_right _ h)) (by decide +kernel))
set_option maxRecDepth 20000 in
theorem gX5_setDanger_X5_requireBlock : GoodIn wsX5_setDanger (wsV RX5 119 RX5 yX5_requireBlock wsX5_requireBlock) := goodIn_app (goodIn_of _ (by decide +kernel)) ggX5_setDanger_X5_requireBlock
set_option maxRecDepth 20000 in
theorem ggX5_setDanger_X0_record : GoodIn wsX5_setDanger wsX0_record := goodIn_r _ [18, 19, 20, 21, 22, 23, 24, 25, 26, 27, 28, 29, 30, 31, 32, 33, 34, 35, 36, 37, 38, 39, 40, 41, 42, 43, 44, 45, 46, 47, 48, 49, 50, 51, 80, 81, 82, 63, 64, 65, 66, 67, 68, 69, 70, 71, 72, 73, 74, 75, 76, 77, 78, 79] (by decide +kernel) (by decide +kernel)
set_option maxRecDepth 20000 in
theorem gX5_setDanger_X0_record : GoodIn wsX5_setDanger (wsV RX5 214 RX0 yX0_record wsX0_record) := goodIn_app (goodIn_of _ (by decide +kernel)) ggX5_setDanger_X0_record
set_option maxRecDepth 20000 in
theorem ggX5_setDanger_X4_clearSignals : GoodIn wsX5_setDanger wsX4_clearSignals := goodIn_r _ [55, 32, 43, 63, 64, 65, 66, 67, 68, 69, 70, 71, 72, 73, 74, 75, 76, 77, 78, 79] (by decide +kernel) (by decide +kernel)
set_option maxRecDepth 20000 in
theorem gX5_setDanger_X4_clearSignals : GoodIn wsX5_setDanger (wsV RX5 219 RX4 yX4_clearSignals wsX4_clearSignals) := goodIn_app (goodIn_of _ (by decide +kernel)) ggX5_setDanger_X4_clearSignals
set_option maxRecDepth 20000 in
theorem ggX5_repair_X5_requireBlock : GoodIn wsX5_repair wsX5_requireBlock := goodIn_ca (goodIn_r _ [11, 12, 13, 3, 14, 53, 54, 55, 56, 57, 58, 59, 60, 61, 62, 63, 64, 65, 66, 67, 68, 69, 70, 71, 72, 73, 74, 75, 76] (by decide +kernel) (by decide +kernel)) (goodIn_sub (fun _ h => List.mem_cons_of_mem _ (List.mem_append_right _ h)) (by decide +kernel))
set_option maxRecDepth 20000 in
theorem gX5_repair_X5_requireBlock : GoodIn wsX5_repair (wsV RX5 119 RX5 yX5_requireBlock wsX5_requireBlock) := goodIn_app (goodIn_of _ (by decide +kernel)) ggX5_repair_X5_requireBlock
set_option maxRecDepth 20000 in
theorem ggX5_repair_X0_record : GoodIn wsX5_repair wsX0_record := goodIn_r _ [19, 20, 21, 22, 23, 24, 25, 26, 27, 28, 29, 30, 31, 32, 33, 34, 35, 36, 37, 38, 39, 40, 41, 42, 43, 44, 45, 46, 47, 48, 49, 50, 51, 52, 77, 78, 79, 60, 61, 62, 63, 64, 65, 66, 67, 68, 69, 70, 71, 72, 73, 74, 75, 76] (by decide +kernel) (by decide +kernel)
set_option maxRecDepth 20000 in
theorem gX5_repair_X0_record : GoodIn wsX5_repair (wsV RX5 214 RX0 yX0_record wsX0_record) := goodIn_app (goodIn_of _ (by decide +kernel)) ggX5_repair_X0_record
set_option maxRecDepth 20000 in
theorem ggX5_removeWagons_X5_requireBlock : GoodIn wsX5_removeWagons wsX5_requireBlock := goodIn_ca (goodIn_r _ [9, 10, 11, 2, 12, 51, 52, 53, 54, 55, 56, 57, 58, 59, 60, 61, 62, 63, 64, 65, 66, 67, 68, 69, 70, 71, 72, 73, 74] (by decide +kernel) (by decide +kernel)) (goodIn_sub (fun _ h => List.mem_cons_of_mem _ (List.mem_append_right _ h)) (by decide +kernel))
set_option maxRecDepth 20000 in
theorem gX5_removeWagons_X5_requireBlock : GoodIn wsX5_removeWagons (wsV RX5 119 RX5 yX5_requireBlock wsX5_requireBlock) := goodIn_app (goodIn_of _ (by decide +kernel)) ggX5_removeWagons_X5_requireBlock
set_option maxRecDepth 20000 in
theorem ggX5_removeWagons_X0_record : GoodIn wsX5_removeWagons wsX0_record := goodIn_r _ [17, 18, 19, 20, 21, 22, 23, 24, 25, 26, 27, 28, 29, 30, 31, 32, 33, 34, 35, 36, 37, 38, 39, 40, 41, 42, 43, 44, 45, 46, 47, 48, 49, 50, 75, 76, 77, 58, 59, 60, 61, 62, 63, 64, 65, 66, 67, 68, 69, 70, 71, 72, 73, 74] (by decide +kernel) (by decide +kernel)
set_option maxRecDepth 20000 in
theorem gX5_removeWagons_X0_record : GoodIn wsX5_removeWagons (wsV RX5 214 RX0 yX0_record wsX0_record) := goodIn_app (goodIn_of _ (by decide +kernel)) ggX5_removeWagons_X0_record
set_option maxRecDepth 20000 in
theorem ggX5_addWagons_X5_requireTrain : GoodIn wsX5_addWagons wsX5_requireTrain := goodIn_ca (goodIn_r _ [13, 14, 15, 5, 16, 55, 56, 57, 58, 59, 60, 61, 62, 63, 64, 65, 66, 67, 68, 69, 70, 71, 72, 73, 74, 75, 76, 77, 78] (by decide +kernel) (by decide +kernel)) (goodIn_sub (fun _ h => List.mem_cons_of_mem _ (List.mem_append_right _ h)) (by decide +kernel))
set_option maxRecDepth 20000 in
theorem gX5_addWagons_X5_requireTrain : GoodIn wsX5_addWagons (wsV RX5 163 RX5 yX5_requireTrain wsX5_requireTrain) := goodIn_app (goodIn_of _ (by decide +kernel)) ggX5_addWagons_X5_requireTrain
set_option maxRecDepth 20000 in
theorem ggX5_addWagons_X0_record : GoodIn wsX5_addWagons wsX0_record := goodIn_r _ [21, 22, 23, 24, 25, 26, 27, 28, 29, 30, 31, 32, 33, 34, 35, 36, 37, 38, 39, 40, 41, 42, 43, 44, 45, 46, 47, 48, 49, 50, 51, 52, 53, 54, 79, 80, 81, 62, 63, 64, 65, 66, 67, 68, 69, 70, 71, 72, 73, 74, 75, 76, 77, 78] (by decide +kernel) (by decide +kernel)
set_option maxRecDepth 20000 in
theorem gX5_addWagons_X0_record : GoodIn wsX5_addWagons (wsV RX5 214 RX0 yX0_record wsX0_record) := goodIn_app (goodIn_of _ (by decide +kernel)) ggX5_addWagons_X0_record
set_option maxRecDepth 20000 in
theorem ggX5_setTopSpeed_X5_requireTrain : GoodIn wsX5_setTopSpeed wsX5_requireTrain := goodIn_ca (goodIn_r _ [10, 11, 12, 4, 13, 52, 53, 54, 55, 56, 57, 58, 59, 60, 61, 62, 63, 64, 65, 66, 67, 68, 69, 70, 71, 72, 73, 74, 75] (by decide +kernel) (by decide +kernel)) (goodIn_sub (fun _ h => List.mem_cons_of_mem _ (List.mem_append_right _ h)) (by decide +kernel))
set_option maxRecDepth 20000 in
theorem gX5_setTopSpeed_X5_requireTrain : GoodIn wsX5_setTopSpeed (wsV RX5 163 RX5 yX5_requireTrain wsX5_requireTrain) := goodIn_app (goodIn_of _ (by decide +kernel)) ggX5_setTopSpeed_X5_requireTrain
set_option maxRecDepth 20000 in
theorem ggX5_setTopSpeed_X0_record : GoodIn wsX5_setTopSpeed wsX0_record := goodIn_r _ [18, 19, 20, 21, 22, 23, 24, 25, 26, 27, 28, 29, 30, 31, 32, 33, 34, 35, 36, 37, 38, 39, 40, 41, 42, 43, 44, 45, 46, 47, 48, 49, 50, 51, 76, 77, 78, 59, 60, 61, 62, 63, 64, 65, 66, 67, 68, 69, 70, 71, 72, 73, 74, 75] (by decide +kernel) (by decide +kernel)
set_option maxRecDepth 20000 in
theorem gX5_setTopSpeed_X0_record : GoodIn wsX5_setTopSpeed (wsV RX5 214 RX0 yX0_record wsX0_record) := goodIn_app (goodIn_of _ (by decide +kernel)) ggX5_setTopSpeed_X0_record
set_option maxRecDepth 20000 in
theorem ggX5_restore_X5_requireSlot : GoodIn wsX5_restore wsX5_requireSlot := goodIn_ca (goodIn_r _ [12, 13, 14] (by decide +kernel) (by decide +kernel)) (goodIn_sub (fun _ h => List.mem_cons_of_mem _ (List.mem_append_right _ h)) (by decide +kernel))
set_option maxRecDepth 20000 in
theorem gX5_restore_X5_requireSlot : GoodIn wsX5_restore (wsV RX5 232 RX5 yX5_requireSlot wsX5_requireSlot) := goodIn_app (goodIn_of _ (by decide +kernel)) ggX5_restore_X5_requireSlot
set_option maxRecDepth 20000 in
theorem ggX5_restore_X5_slotFor : GoodIn wsX5_restore wsX5_slotFor := goodIn_r _ [18, 19, 20, 62, 63, 64, 65, 66, 67, 68] (by decide +kernel) (by decide +kernel)
set_option maxRecDepth 20000 in
theorem gX5_restore_X5_slotFor : GoodIn wsX5_restore (wsV RX5 235 RX5 yX5_slotFor wsX5_slotFor) := goodIn_app (goodIn_of _ (by decide +kernel)) ggX5_restore_X5_slotFor
set_option maxRecDepth 20000 in
theorem ggX5_restore_X0_record : GoodIn wsX5_restore wsX0_record := goodIn_r _ [25, 26, 27, 28, 29, 30, 31, 32, 33, 34, 35, 36, 37, 38, 39, 40, 41, 42, 43, 44, 45, 46, 47, 48, 49, 50, 51, 52, 53, 54, 55, 56, 57, 58, 86, 87, 88, 69, 70, 71, 72, 73, 74, 75, 76, 77, 78, 79, 80, 81, 82, 83, 84, 85] (by decide +kernel) (by decide +kernel)
set_option maxRecDepth 20000 in
theorem gX5_restore_X0_record : GoodIn wsX5_restore (wsV RX5 214 RX0 yX0_record wsX0_record) := goodIn_app (goodIn_of _ (by decide +kernel)) ggX5_restore_X0_record
set_option maxRecDepth 20000 in
theorem ggX5_restore_X4_copyFrom : GoodIn wsX5_restore wsX4_copyFrom := goodIn_r _ [37, 38, 39, 40, 41, 42, 43, 44, 45, 46, 47, 48, 49, 50, 51, 52, 53, 54, 55, 56, 57, 58, 69, 70, 71, 72, 73, 74, 75, 76, 77, 78, 79, 80, 81, 82, 83, 84, 85] (by decide +kernel) (by decide +kernel)
set_option maxRecDepth 20000 in
theorem gX5_restore_X4_copyFrom : GoodIn wsX5_restore (wsV RX5 69 RX4 yX4_copyFrom wsX4_copyFrom) := goodIn_app (goodIn_of _ (by decide +kernel)) ggX5_restore_X4_copyFrom
set_option maxRecDepth 20000 in
theorem ggX5_undo_X0_takeBack : GoodIn wsX5_undo wsX0_takeBack := goodIn_r _ [10, 11, 12, 13, 14, 15, 16, 17, 18, 19, 20, 21, 22, 23, 24, 25, 26, 27, 28, 29, 30, 31, 32, 33, 34, 35, 36, 37, 38, 39, 47, 48, 49, 50, 51, 52, 53, 54, 55, 56, 57, 58, 59, 60, 61, 62, 63, 64, 65, 66] (by decide +kernel) (by decide +kernel)
set_option maxRecDepth 20000 in
theorem gX5_undo_X0_takeBack : GoodIn wsX5_undo (wsV RX5 249 RX0 yX0_takeBack wsX0_takeBack) := goodIn_app (goodIn_of _ (by decide +kernel)) ggX5_undo_X0_takeBack
set_option maxRecDepth 20000 in
theorem ggX5_save_X5_requireSlot : GoodIn wsX5_save wsX5_requireSlot := goodIn_ca (goodIn_r _ [9, 10, 11] (by decide +kernel) (by decide +kernel)) (goodIn_sub (fun _ h => List.mem_cons_of_mem _ (List.mem_append_right _ h)) (by decide +kernel))
set_option maxRecDepth 20000 in
theorem gX5_save_X5_requireSlot : GoodIn wsX5_save (wsV RX5 232 RX5 yX5_requireSlot wsX5_requireSlot) := goodIn_app (goodIn_of _ (by decide +kernel)) ggX5_save_X5_requireSlot
set_option maxRecDepth 20000 in
theorem ggX5_save_X5_slotFor : GoodIn wsX5_save wsX5_slotFor := goodIn_r _ [15, 16, 17, 46, 47, 48, 49, 50, 51, 52] (by decide +kernel) (by decide +kernel)
set_option maxRecDepth 20000 in
theorem gX5_save_X5_slotFor : GoodIn wsX5_save (wsV RX5 235 RX5 yX5_slotFor wsX5_slotFor) := goodIn_app (goodIn_of _ (by decide +kernel)) ggX5_save_X5_slotFor
set_option maxRecDepth 20000 in
theorem ggX5_save_X4_copyFrom : GoodIn wsX5_save wsX4_copyFrom := goodIn_r _ [22, 23, 24, 25, 26, 27, 28, 29, 30, 31, 32, 33, 34, 35, 36, 37, 38, 39, 40, 41, 42, 43, 53, 54, 55, 56, 57, 58, 59, 60, 61, 62, 63, 64, 65, 66, 67, 68, 69] (by decide +kernel) (by decide +kernel)
set_option maxRecDepth 20000 in
theorem gX5_save_X4_copyFrom : GoodIn wsX5_save (wsV RX5 69 RX4 yX4_copyFrom wsX4_copyFrom) := goodIn_app (goodIn_of _ (by decide +kernel)) ggX5_save_X4_copyFrom
set_option maxRecDepth 20000 in
theorem ggX5_writeRing_X1_put : GoodIn wsX5_writeRing wsX1_put := goodIn_r _ [12, 13, 14, 27, 28] (by decide +kernel) (by decide +kernel)
set_option maxRecDepth 20000 in
theorem gX5_writeRing_X1_put : GoodIn wsX5_writeRing (wsV RX5 253 RX1 yX1_put wsX1_put) := goodIn_app (goodIn_of _ (by decide +kernel)) ggX5_writeRing_X1_put
set_option maxRecDepth 20000 in
theorem ggX5_writeRing_X1_putNumber : GoodIn wsX5_writeRing wsX1_putNumber := goodIn_r _ [18, 19, 9, 10, 11, 12, 13, 14, 27, 28] (by decide +kernel) (by decide +kernel)
set_option maxRecDepth 20000 in
theorem gX5_writeRing_X1_putNumber : GoodIn wsX5_writeRing (wsV RX5 257 RX1 yX1_putNumber wsX1_putNumber) := goodIn_app (goodIn_of _ (by decide +kernel)) ggX5_writeRing_X1_putNumber
set_option maxRecDepth 20000 in
theorem ggX5_writeTrain_X5_requireTrain : GoodIn wsX5_writeTrain wsX5_requireTrain := goodIn_ca (goodIn_r _ [12, 13, 14, 1, 15, 28, 29, 30, 31, 32, 33, 34, 35, 36, 37, 38, 39, 40, 41, 42, 43, 44, 45, 46, 47, 48, 49, 50, 51] (by decide +kernel) (by decide +kernel)) (goodIn_sub (fun _ h => List.mem_cons_of_mem _ (List.mem_append_right _ h)) (by decide +kernel))
set_option maxRecDepth 20000 in
theorem gX5_writeTrain_X5_requireTrain : GoodIn wsX5_writeTrain (wsV RX5 163 RX5 yX5_requireTrain wsX5_requireTrain) := goodIn_app (goodIn_of _ (by decide +kernel)) ggX5_writeTrain_X5_requireTrain
set_option maxRecDepth 20000 in
theorem ggX5_writeTrain_X1_putNumber : GoodIn wsX5_writeTrain wsX1_putNumber := goodIn_r _ [20, 21, 22, 23, 19, 24, 25, 26, 52, 53] (by decide +kernel) (by decide +kernel)
set_option maxRecDepth 20000 in
theorem gX5_writeTrain_X1_putNumber : GoodIn wsX5_writeTrain (wsV RX5 257 RX1 yX1_putNumber wsX1_putNumber) := goodIn_app (goodIn_of _ (by decide +kernel)) ggX5_writeTrain_X1_putNumber
set_option maxRecDepth 20000 in
theorem ggX5_writeTrain_X1_put : GoodIn wsX5_writeTrain wsX1_put := goodIn_r _ [24, 25, 26, 52, 53] (by decide +kernel) (by decide +kernel)
set_option maxRecDepth 20000 in
theorem gX5_writeTrain_X1_put : GoodIn wsX5_writeTrain (wsV RX5 253 RX1 yX1_put wsX1_put) := goodIn_app (goodIn_of _ (by decide +kernel)) ggX5_writeTrain_X1_put
set_option maxRecDepth 20000 in
theorem ggJ0_length_8abf5_J0_coder_7d493 : GoodIn wsJ0_length_8abf5 wsJ0_coder_7d493 := goodIn_r _ [6, 7, 8] (by decide +kernel) (by decide +kernel)
set_option maxRecDepth 20000 in
theorem gJ0_length_8abf5_J0_coder_7d493 : GoodIn wsJ0_length_8abf5 (wsV RJ0 335 RJ0 yJ0_coder_7d493 wsJ0_coder_7d493) := goodIn_app (goodIn_of _ (by decide +kernel)) ggJ0_length_8abf5_J0_coder_7d493
set_option maxRecDepth 20000 in
theorem ggJ0_charAt_5068e_J0_isLatin1_aae02 : GoodIn wsJ0_charAt_5068e wsJ0_isLatin1_aae02 := goodIn_r _ [6, 7, 8] (by decide +kernel) (by decide +kernel)
set_option maxRecDepth 20000 in
theorem gJ0_charAt_5068e_J0_isLatin1_aae02 : GoodIn wsJ0_charAt_5068e (wsV RJ0 492 RJ0 yJ0_isLatin1_aae02 wsJ0_isLatin1_aae02) := goodIn_app (goodIn_of _ (by decide +kernel)) ggJ0_charAt_5068e_J0_isLatin1_aae02
set_option maxRecDepth 20000 in
theorem ggJ0_charAt_5068e_J1_charAt_3b067 : GoodIn wsJ0_charAt_5068e wsJ1_charAt_3b067 := goodIn_r _ [12, 13, 14, 5, 15, 16, 17, 18, 19, 20] (by decide +kernel) (by decide +kernel)
set_option maxRecDepth 20000 in
theorem gJ0_charAt_5068e_J1_charAt_3b067 : GoodIn wsJ0_charAt_5068e (va_wsS RJ0 495 yJ1_charAt_3b067 wsJ1_charAt_3b067) := goodIn_app (goodIn_of _ (by decide +kernel)) ggJ0_charAt_5068e_J1_charAt_3b067
set_option maxRecDepth 20000 in
theorem ggJ0_charAt_5068e_J2_charAt_3b067 : GoodIn wsJ0_charAt_5068e wsJ2_charAt_3b067 := goodIn_r _ [24, 25, 26, 23, 27, 28, 29, 30, 31, 14, 5, 15, 16, 17, 18, 19, 20, 32, 33, 34, 35, 36, 37] (by decide +kernel) (by decide +kernel)
set_option maxRecDepth 20000 in
theorem gJ0_charAt_5068e_J2_charAt_3b067 : GoodIn wsJ0_charAt_5068e (va_wsS RJ0 498 yJ2_charAt_3b067 wsJ2_charAt_3b067) := goodIn_app (goodIn_of _ (by decide +kernel)) ggJ0_charAt_5068e_J2_charAt_3b067
set_option maxRecDepth 20000 in
theorem ggJ0_checkIndex_df160_J3_checkIndex_8e157 : GoodIn wsJ0_checkIndex_df160 wsJ3_checkIndex_8e157 := goodIn_r _ [5] (by decide +kernel) (by decide +kernel)
set_option maxRecDepth 20000 in
theorem gJ0_checkIndex_df160_J3_checkIndex_8e157 : GoodIn wsJ0_checkIndex_df160 (va_wsS RJ0 1059 yJ3_checkIndex_8e157 wsJ3_checkIndex_8e157) := goodIn_app (goodIn_of _ (by decide +kernel)) ggJ0_checkIndex_df160_J3_checkIndex_8e157
set_option maxRecDepth 20000 in
theorem ggJ1_charAt_3b067_J0_checkIndex_df160 : GoodIn wsJ1_charAt_3b067 wsJ0_checkIndex_df160 := goodIn_r _ [4, 5, 6, 7, 8, 9] (by decide +kernel) (by decide +kernel)
set_option maxRecDepth 20000 in
theorem gJ1_charAt_3b067_J0_checkIndex_df160 : GoodIn wsJ1_charAt_3b067 (va_wsS RJ1 9 yJ0_checkIndex_df160 wsJ0_checkIndex_df160) := goodIn_app (goodIn_of _ (by decide +kernel)) ggJ1_charAt_3b067_J0_checkIndex_df160
set_option maxRecDepth 20000 in
theorem ggJ2_getChar_3b067_J2_length_9d52b : GoodIn wsJ2_getChar_3b067 wsJ2_length_9d52b := goodIn_r _ [7] (by decide +kernel) (by decide +kernel)
set_option maxRecDepth 20000 in
theorem gJ2_getChar_3b067_J2_length_9d52b : GoodIn wsJ2_getChar_3b067 (va_wsS RJ2 48 yJ2_length_9d52b wsJ2_length_9d52b) := goodIn_app (goodIn_of _ (by decide +kernel)) ggJ2_getChar_3b067_J2_length_9d52b
set_option maxRecDepth 20000 in
theorem ggJ2_charAt_3b067_J2_checkIndex_2214a : GoodIn wsJ2_charAt_3b067 wsJ2_checkIndex_2214a := goodIn_r _ [4, 5, 6, 3, 7, 8, 9, 10, 11, 12, 13, 14, 15, 16] (by decide +kernel) (by decide +kernel)
set_option maxRecDepth 20000 in
theorem gJ2_charAt_3b067_J2_checkIndex_2214a : GoodIn wsJ2_charAt_3b067 (va_wsS RJ2 67 yJ2_checkIndex_2214a wsJ2_checkIndex_2214a) := goodIn_app (goodIn_of _ (by decide +kernel)) ggJ2_charAt_3b067_J2_checkIndex_2214a
set_option maxRecDepth 20000 in
theorem ggJ2_charAt_3b067_J2_getChar_3b067 : GoodIn wsJ2_charAt_3b067 wsJ2_getChar_3b067 := goodIn_r _ [19, 20, 21, 22, 5, 6, 3, 7] (by decide +kernel) (by decide +kernel)
set_option maxRecDepth 20000 in
theorem gJ2_charAt_3b067_J2_getChar_3b067 : GoodIn wsJ2_charAt_3b067 (va_wsS RJ2 71 yJ2_getChar_3b067 wsJ2_getChar_3b067) := goodIn_app (goodIn_of _ (by decide +kernel)) ggJ2_charAt_3b067_J2_getChar_3b067
set_option maxRecDepth 20000 in
theorem ggJ2_checkIndex_2214a_J2_length_9d52b : GoodIn wsJ2_checkIndex_2214a wsJ2_length_9d52b := goodIn_r _ [4] (by decide +kernel) (by decide +kernel)
set_option maxRecDepth 20000 in
theorem gJ2_checkIndex_2214a_J2_length_9d52b : GoodIn wsJ2_checkIndex_2214a (va_wsS RJ2 48 yJ2_length_9d52b wsJ2_length_9d52b) := goodIn_app (goodIn_of _ (by decide +kernel)) ggJ2_checkIndex_2214a_J2_length_9d52b
set_option maxRecDepth 20000 in
theorem ggJ2_checkIndex_2214a_J0_checkIndex_df160 : GoodIn wsJ2_checkIndex_2214a wsJ0_checkIndex_df160 := goodIn_r _ [8, 9, 10, 11, 12, 13] (by decide +kernel) (by decide +kernel)
set_option maxRecDepth 20000 in
theorem gJ2_checkIndex_2214a_J0_checkIndex_df160 : GoodIn wsJ2_checkIndex_2214a (va_wsS RJ2 414 yJ0_checkIndex_df160 wsJ0_checkIndex_df160) := goodIn_app (goodIn_of _ (by decide +kernel)) ggJ2_checkIndex_2214a_J0_checkIndex_df160
