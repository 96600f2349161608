/-! Where the words of the program stand in the tables (by program: wip/p38/mkwords.py), and that they do. -/
def mw_cod_0 : List (Nat × Nat) := [(1, 212), (4, 79), (4, 50), (4, 61), (4, 65), (4, 83), (4, 76), (5, 16), (5, 20), (5, 31), (5, 35), (1, 27), (1, 43), (2, 73), (2, 61), (3, 18), (3, 79), (3, 138), (3, 161), (3, 216), (4, 185), (3, 22), (3, 14), (3, 102), (3, 122), (3, 67), (3, 127), (3, 83), (3, 87), (4, 22), (4, 1), (4, 5), (4, 26), (2, 116), (1, 178), (4, 92), (4, 97), (4, 131), (4, 135), (4, 127), (4, 101), (4, 113), (4, 117), (1, 33), (2, 69), (2, 82), (1, 47), (2, 77), (2, 65), (4, 121), (3, 91), (2, 4), (5, 65), (3, 164), (3, 164), (3, 164), (3, 164), (3, 164), (3, 164), (3, 164), (3, 164), (3, 164), (3, 164), (3, 164), (1, 106), (2, 57), (3, 168), (4, 70), (4, 54), (2, 92), (4, 105), (2, 100), (2, 86), (2, 96), (2, 104), (2, 137), (4, 173), (2, 129), (2, 125), (3, 188)]
def mw_cod_1 : List (Nat × Nat) := [(3, 184), (3, 180), (4, 46), (5, 47), (2, 108), (2, 112), (2, 121), (2, 133), (3, 172), (4, 42), (3, 176), (3, 195), (3, 199), (4, 38), (1, 19), (2, 156), (3, 10), (3, 75), (3, 98), (3, 111), (3, 118), (3, 134), (3, 146), (4, 146), (3, 236), (4, 153), (4, 160), (4, 169), (2, 53), (4, 181), (4, 193), (4, 201), (4, 209), (4, 217), (3, 157), (4, 224), (4, 231), (4, 238), (5, 5), (5, 12), (5, 27), (5, 43), (3, 212), (5, 54), (5, 61), (3, 164), (3, 164), (3, 164), (3, 223), (4, 9), (3, 28), (2, 159), (3, 47), (3, 25), (3, 164), (3, 202), (3, 205), (2, 239), (2, 231), (2, 235), (3, 164), (3, 150), (4, 139), (4, 34), (4, 87), (4, 17), (4, 14), (4, 30), (3, 164), (3, 164), (3, 164), (3, 164), (3, 164), (3, 164), (3, 164), (3, 164), (3, 164), (3, 164), (3, 164), (3, 164)]
def mw_cod_2 : List (Nat × Nat) := [(3, 164), (3, 164), (3, 164), (3, 164), (3, 164), (3, 164), (3, 164), (3, 164), (3, 164), (3, 164), (3, 164), (3, 164), (3, 164), (3, 164), (3, 164), (3, 164), (3, 164), (3, 164), (3, 164), (3, 164), (3, 164), (3, 164), (3, 164), (3, 164), (3, 164), (3, 164), (3, 164), (3, 164), (3, 164), (3, 164), (3, 164), (3, 164), (3, 164), (3, 164), (3, 164), (3, 164), (3, 164), (3, 164), (3, 164), (3, 164), (3, 164), (3, 164), (3, 164), (3, 164), (3, 164), (3, 164), (3, 164), (3, 164), (3, 164), (3, 164), (3, 164), (3, 164), (3, 164), (3, 164), (3, 164), (3, 164), (3, 164), (3, 164), (3, 164), (3, 164), (3, 164), (3, 164), (3, 164), (3, 164), (3, 164), (3, 164), (3, 164), (3, 164), (3, 164), (3, 164), (3, 164), (3, 164), (3, 164), (3, 164), (3, 164), (3, 164), (3, 164), (3, 164), (3, 164), (3, 164)]
def mw_cod_3 : List (Nat × Nat) := [(3, 164), (2, 143), (2, 147), (2, 151), (3, 4), (3, 71), (3, 94), (3, 107), (3, 114), (3, 130), (3, 142), (4, 142), (3, 232), (4, 149), (4, 156), (4, 165), (4, 177), (4, 189), (4, 197), (4, 205), (4, 213), (3, 153), (4, 220), (4, 227), (4, 234), (5, 1), (5, 8), (5, 23), (5, 39), (3, 208), (5, 50), (5, 57), (3, 219), (3, 229), (3, 226), (5, 75), (5, 78), (5, 69), (5, 72), (5, 81), (5, 84), (5, 87)]
def mw_cod : List (Nat × Nat) := mw_cod_0 ++ (mw_cod_1 ++ (mw_cod_2 ++ (mw_cod_3)))
def mw_ins_0 : List (Nat × Nat) := [(1, 211), (4, 78), (4, 48), (4, 60), (4, 64), (4, 82), (4, 75), (5, 14), (5, 19), (5, 29), (5, 34), (1, 26), (1, 41), (2, 71), (2, 59), (3, 16), (3, 77), (3, 136), (3, 159), (3, 214), (4, 183), (3, 20), (3, 12), (3, 100), (3, 120), (3, 65), (3, 125), (3, 81), (3, 85), (4, 20), (3, 239), (4, 3), (4, 24), (2, 114), (1, 177), (4, 90), (4, 96), (4, 130), (4, 134), (4, 126), (4, 100), (4, 112), (4, 116), (1, 32), (2, 67), (2, 80), (1, 45), (2, 75), (2, 63), (4, 119), (3, 89), (2, 3), (5, 63), (3, 163), (3, 163), (3, 163), (3, 163), (3, 163), (3, 163), (3, 163), (3, 163), (3, 163), (3, 163), (3, 163), (1, 105), (2, 55), (3, 166), (4, 68), (4, 52), (2, 90), (4, 103), (2, 98), (2, 85), (2, 95), (2, 103), (2, 135), (4, 171), (2, 127), (2, 123), (3, 186)]
def mw_ins_1 : List (Nat × Nat) := [(3, 182), (3, 178), (4, 44), (5, 45), (2, 107), (2, 111), (2, 120), (2, 132), (3, 170), (4, 40), (3, 175), (3, 194), (3, 198), (4, 36), (1, 18), (2, 154), (3, 8), (3, 73), (3, 96), (3, 109), (3, 116), (3, 132), (3, 144), (4, 144), (3, 234), (4, 151), (4, 158), (4, 167), (2, 51), (4, 179), (4, 191), (4, 199), (4, 207), (4, 215), (3, 155), (4, 222), (4, 229), (4, 236), (5, 3), (5, 10), (5, 25), (5, 41), (3, 210), (5, 52), (5, 59), (3, 163), (3, 163), (3, 163), (3, 221), (4, 7), (3, 27), (2, 158), (3, 46), (3, 24), (3, 163), (3, 201), (3, 204), (2, 238), (2, 230), (2, 234), (3, 163), (3, 149), (4, 138), (4, 33), (4, 86), (4, 16), (4, 13), (4, 29), (3, 163), (3, 163), (3, 163), (3, 163), (3, 163), (3, 163), (3, 163), (3, 163), (3, 163), (3, 163), (3, 163), (3, 163)]
def mw_ins_2 : List (Nat × Nat) := [(3, 163), (3, 163), (3, 163), (3, 163), (3, 163), (3, 163), (3, 163), (3, 163), (3, 163), (3, 163), (3, 163), (3, 163), (3, 163), (3, 163), (3, 163), (3, 163), (3, 163), (3, 163), (3, 163), (3, 163), (3, 163), (3, 163), (3, 163), (3, 163), (3, 163), (3, 163), (3, 163), (3, 163), (3, 163), (3, 163), (3, 163), (3, 163), (3, 163), (3, 163), (3, 163), (3, 163), (3, 163), (3, 163), (3, 163), (3, 163), (3, 163), (3, 163), (3, 163), (3, 163), (3, 163), (3, 163), (3, 163), (3, 163), (3, 163), (3, 163), (3, 163), (3, 163), (3, 163), (3, 163), (3, 163), (3, 163), (3, 163), (3, 163), (3, 163), (3, 163), (3, 163), (3, 163), (3, 163), (3, 163), (3, 163), (3, 163), (3, 163), (3, 163), (3, 163), (3, 163), (3, 163), (3, 163), (3, 163), (3, 163), (3, 163), (3, 163), (3, 163), (3, 163), (3, 163), (3, 163)]
def mw_ins_3 : List (Nat × Nat) := [(3, 163), (2, 142), (2, 146), (2, 150), (3, 3), (3, 70), (3, 93), (3, 106), (3, 113), (3, 129), (3, 141), (4, 141), (3, 231), (4, 148), (4, 155), (4, 164), (4, 176), (4, 188), (4, 196), (4, 204), (4, 212), (3, 152), (4, 219), (4, 226), (4, 233), (5, 0), (5, 7), (5, 22), (5, 38), (3, 207), (5, 49), (5, 56), (3, 218), (3, 228), (3, 225), (5, 74), (5, 77), (5, 68), (5, 71), (5, 80), (5, 83), (5, 86)]
def mw_ins : List (Nat × Nat) := mw_ins_0 ++ (mw_ins_1 ++ (mw_ins_2 ++ (mw_ins_3)))
def mw_sel_0 : List (Nat × Nat) := [(9, 0), (9, 0), (4, 49), (0, 18), (0, 19), (0, 21), (0, 20), (5, 15), (0, 30), (5, 30), (0, 31), (9, 0), (1, 42), (2, 72), (2, 60), (3, 17), (3, 78), (3, 137), (3, 160), (3, 215), (4, 184), (3, 21), (3, 13), (3, 101), (3, 121), (3, 66), (3, 126), (3, 82), (3, 86), (4, 21), (4, 0), (4, 4), (4, 25), (2, 115), (9, 0), (4, 91), (0, 23), (0, 27), (0, 28), (0, 26), (0, 24), (0, 25), (9, 0), (9, 0), (2, 68), (2, 81), (1, 46), (2, 76), (2, 64), (4, 120), (3, 90), (9, 0), (5, 64), (9, 0), (9, 0), (9, 0), (9, 0), (9, 0), (9, 0), (9, 0), (9, 0), (9, 0), (9, 0), (9, 0), (9, 0), (2, 56), (3, 167), (4, 69), (4, 53), (2, 91), (4, 104), (2, 99), (0, 0), (0, 1), (0, 2), (2, 136), (4, 172), (2, 128), (2, 124), (3, 187)]
def mw_sel_1 : List (Nat × Nat) := [(3, 183), (3, 179), (4, 45), (5, 46), (0, 3), (0, 4), (0, 5), (0, 6), (3, 171), (4, 41), (0, 12), (0, 13), (0, 14), (4, 37), (9, 0), (2, 155), (3, 9), (3, 74), (3, 97), (3, 110), (3, 117), (3, 133), (3, 145), (4, 145), (3, 235), (4, 152), (4, 159), (4, 168), (2, 52), (4, 180), (4, 192), (4, 200), (4, 208), (4, 216), (3, 156), (4, 223), (4, 230), (4, 237), (5, 4), (5, 11), (5, 26), (5, 42), (3, 211), (5, 53), (5, 60), (9, 0), (9, 0), (9, 0), (3, 222), (4, 8), (9, 0), (9, 0), (9, 0), (9, 0), (9, 0), (9, 0), (9, 0), (0, 10), (0, 8), (0, 9), (9, 0), (0, 11), (0, 29), (0, 17), (0, 22), (9, 0), (0, 15), (0, 16), (9, 0), (9, 0), (9, 0), (9, 0), (9, 0), (9, 0), (9, 0), (9, 0), (9, 0), (9, 0), (9, 0), (9, 0)]
def mw_sel_2 : List (Nat × Nat) := [(9, 0), (9, 0), (9, 0), (9, 0), (9, 0), (9, 0), (9, 0), (9, 0), (9, 0), (9, 0), (9, 0), (9, 0), (9, 0), (9, 0), (9, 0), (9, 0), (9, 0), (9, 0), (9, 0), (9, 0), (9, 0), (9, 0), (9, 0), (9, 0), (9, 0), (9, 0), (9, 0), (9, 0), (9, 0), (9, 0), (9, 0), (9, 0), (9, 0), (9, 0), (9, 0), (9, 0), (9, 0), (9, 0), (9, 0), (9, 0), (9, 0), (9, 0), (9, 0), (9, 0), (9, 0), (9, 0), (9, 0), (9, 0), (9, 0), (9, 0), (9, 0), (9, 0), (9, 0), (9, 0), (9, 0), (9, 0), (9, 0), (9, 0), (9, 0), (9, 0), (9, 0), (9, 0), (9, 0), (9, 0), (9, 0), (9, 0), (9, 0), (9, 0), (9, 0), (9, 0), (9, 0), (9, 0), (9, 0), (9, 0), (9, 0), (9, 0), (9, 0), (9, 0), (9, 0), (9, 0)]
def mw_sel_3 : List (Nat × Nat) := [(9, 0), (9, 0), (9, 0), (9, 0), (9, 0), (9, 0), (9, 0), (9, 0), (9, 0), (9, 0), (9, 0), (9, 0), (9, 0), (9, 0), (9, 0), (9, 0), (9, 0), (9, 0), (9, 0), (9, 0), (9, 0), (9, 0), (9, 0), (9, 0), (9, 0), (9, 0), (9, 0), (9, 0), (9, 0), (9, 0), (9, 0), (9, 0), (9, 0), (9, 0), (9, 0), (9, 0), (9, 0), (9, 0), (9, 0), (9, 0), (9, 0), (9, 0)]
def mw_sel : List (Nat × Nat) := mw_sel_0 ++ (mw_sel_1 ++ (mw_sel_2 ++ (mw_sel_3)))
def mm_staL : List Nat := [0, 1, 0, 0, 0, 0, 0, 0, 0, 0, 0, 0, 0, 0, 0, 0, 0, 0, 0, 0, 0, 0, 0, 0, 0, 0, 0, 0, 0, 0, 0, 0, 0, 0, 0, 0, 0, 0, 0, 0, 0, 0, 1, 0, 0, 0, 0, 0, 0, 0, 0, 0, 0, 1, 1, 1, 1, 1, 1, 1, 1, 1, 1, 1, 0, 0, 0, 0, 0, 0, 0, 0, 0, 0, 0, 0, 0, 0, 0, 0, 0, 0, 0, 0, 0, 0, 0, 0, 0, 0, 0, 0, 0, 0, 0, 0, 0, 0, 0, 0, 0, 0, 0, 0, 0, 0, 0, 0, 0, 0, 0, 0, 0, 0, 0, 0, 0, 0, 0, 0, 0, 0, 0, 0, 0, 1, 1, 1, 0, 0, 1, 1, 1, 1, 1, 1, 1, 0, 0, 0, 1, 0, 0, 0, 0, 1, 0, 0, 1, 1, 1, 1, 1, 1, 1, 1, 1, 1, 1, 1, 1, 1, 1, 1, 1, 1, 1, 1, 1, 1, 1, 1, 1, 1, 1, 1, 1, 1, 1, 1, 1, 1, 1, 1, 1, 1, 1, 1, 1, 1, 1, 1, 1, 1, 1, 1, 1, 1, 1, 1, 1, 1, 1, 1, 1, 1, 1, 1, 1, 1, 1, 1, 1, 1, 1, 1, 1, 1, 1, 1, 1, 1, 1, 1, 1, 1, 1, 1, 1, 1, 1, 1, 1, 1, 1, 1, 1, 1, 1, 1, 1, 1, 1, 1, 1, 1, 1, 1, 1, 1, 1, 1, 1, 1, 1, 1, 1, 1, 1, 1, 1, 1, 1, 1, 1, 1, 1, 1, 1, 1, 1, 1, 1, 1, 1, 1, 1, 1, 1, 1, 1, 1]
def mw_fld_0 : List (Nat × Nat) := [(1, 219), (1, 221), (1, 223), (1, 224), (1, 216), (1, 217), (1, 115), (1, 218), (1, 122), (1, 125), (1, 127), (1, 129), (1, 57), (1, 60), (1, 63), (1, 66), (1, 68), (1, 71), (1, 74), (1, 76), (1, 48), (1, 51), (1, 54), (1, 187), (1, 189), (1, 191), (1, 182), (1, 183), (1, 185), (1, 184), (1, 35), (2, 10), (2, 11), (2, 8), (1, 112), (1, 118), (1, 119), (1, 120), (1, 121), (1, 124), (1, 126), (1, 128), (1, 114), (1, 113), (1, 58), (1, 61), (1, 116), (1, 52), (1, 50), (1, 69), (1, 64), (1, 67), (1, 123), (1, 55), (1, 73), (1, 75), (1, 77), (1, 130), (1, 131), (1, 133), (1, 136), (1, 138), (2, 25), (2, 26), (2, 27), (2, 29), (2, 30), (2, 31), (2, 32), (1, 49), (1, 59), (1, 62), (1, 72), (1, 117), (1, 65), (1, 186), (1, 137), (1, 135), (1, 70), (2, 9)]
def mw_fld_1 : List (Nat × Nat) := [(2, 28), (1, 53), (1, 56), (1, 188), (1, 192), (1, 190), (1, 132), (1, 134), (1, 220), (1, 222)]
def mw_fld : List (Nat × Nat) := mw_fld_0 ++ (mw_fld_1)
def mw_met_0 : List (Nat × Nat) := [(2, 153), (3, 7), (3, 72), (3, 95), (3, 108), (3, 115), (3, 131), (3, 143), (4, 143), (3, 233), (4, 150), (4, 157), (4, 166), (4, 178), (4, 190), (4, 198), (4, 206), (4, 214), (3, 154), (4, 221), (4, 228), (4, 235), (5, 2), (5, 9), (5, 24), (5, 40), (3, 209), (5, 51), (5, 58), (3, 220), (3, 230), (3, 92), (3, 217), (4, 6), (3, 227), (2, 149), (3, 2), (3, 69), (3, 105), (3, 112), (3, 128), (3, 140), (4, 140), (4, 147), (4, 154), (4, 163), (4, 175), (4, 187), (4, 195), (4, 203), (4, 211), (3, 151), (4, 218), (4, 225), (4, 232), (4, 239), (5, 6), (5, 21), (5, 37), (3, 206), (5, 48), (5, 55), (2, 50), (5, 73), (5, 76), (1, 17), (3, 224), (2, 141), (2, 145), (5, 67), (5, 70), (5, 79), (5, 82), (5, 85), (1, 213), (1, 215), (4, 51), (4, 56), (4, 57), (4, 58)]
def mw_met_1 : List (Nat × Nat) := [(4, 73), (4, 62), (4, 67), (4, 71), (4, 72), (4, 66), (4, 77), (4, 80), (5, 17), (5, 32), (5, 36), (1, 28), (1, 31), (1, 40), (1, 44), (2, 74), (2, 62), (2, 117), (3, 15), (3, 19), (3, 123), (3, 68), (3, 84), (3, 88), (4, 2), (1, 179), (1, 181), (4, 93), (4, 94), (4, 123), (4, 124), (4, 98), (4, 110), (4, 102), (4, 106), (4, 107), (4, 128), (4, 132), (4, 108), (4, 109), (4, 114), (4, 115), (4, 118), (4, 122), (1, 34), (2, 66), (2, 5), (2, 7), (5, 66), (1, 107), (1, 109), (1, 111), (2, 58), (2, 70), (2, 78), (2, 79), (2, 83), (2, 101), (2, 105), (4, 55), (2, 88), (2, 89), (2, 93), (2, 97), (2, 138), (4, 174), (3, 189), (3, 185), (3, 181), (2, 109), (2, 118), (2, 113), (2, 122), (2, 126), (2, 130), (3, 173), (3, 177), (3, 192), (4, 43), (3, 196)]
def mw_met_2 : List (Nat × Nat) := [(1, 20), (1, 25), (9, 0), (1, 176), (1, 210), (9, 0), (2, 157), (2, 228), (3, 1), (3, 11), (3, 23), (3, 64), (3, 76), (3, 26), (3, 80), (3, 99), (3, 103), (3, 104), (3, 119), (3, 124), (3, 135), (3, 139), (2, 54), (3, 147), (4, 19), (3, 237), (3, 238), (4, 23), (4, 161), (4, 170), (2, 134), (4, 182), (3, 162), (3, 45), (4, 186), (3, 200), (4, 194), (3, 158), (4, 202), (4, 210), (4, 89), (4, 136), (3, 165), (3, 169), (4, 31), (4, 35), (4, 39), (4, 47), (4, 84), (5, 13), (5, 28), (5, 44), (3, 213), (3, 0), (5, 62), (2, 236), (4, 11), (4, 27), (4, 15), (3, 203), (2, 232), (4, 88)]
def mw_met : List (Nat × Nat) := mw_met_0 ++ (mw_met_1 ++ (mw_met_2))
def mw_cls_0 : List (Nat × Nat) := [(1, 15), (1, 214), (1, 29), (1, 180), (2, 6), (1, 108), (1, 110), (1, 23), (1, 102), (1, 174), (1, 208), (2, 0)]
def mw_cls : List (Nat × Nat) := mw_cls_0
def mw_ist_0 : List (Nat × Nat) := [(1, 209), (1, 24), (1, 175), (1, 30), (2, 1), (1, 103), (1, 16)]
def mw_ist : List (Nat × Nat) := mw_ist_0
def mw_ini_0 : List (Nat × Nat) := [(1, 6), (1, 2), (1, 5), (1, 3), (1, 7), (1, 4), (1, 1), (1, 1), (1, 0)]
def mw_ini : List (Nat × Nat) := mw_ini_0
def mw_lay0_0 : List (Nat × Nat) := [(1, 225), (1, 227), (1, 229), (1, 231), (1, 233), (1, 235), (1, 237)]
def mw_lay0 : List (Nat × Nat) := mw_lay0_0
def mw_lay1_0 : List (Nat × Nat) := [(1, 78), (1, 80), (1, 82), (1, 84), (1, 86), (1, 88), (1, 90), (1, 92), (1, 94), (1, 96), (1, 98)]
def mw_lay1 : List (Nat × Nat) := mw_lay1_0
def mw_lay2_0 : List (Nat × Nat) := [(1, 193), (1, 195), (1, 197), (1, 199), (1, 201), (1, 203), (1, 205)]
def mw_lay2 : List (Nat × Nat) := mw_lay2_0
def mw_lay3_0 : List (Nat × Nat) := [(1, 36)]
def mw_lay3 : List (Nat × Nat) := mw_lay3_0
def mw_lay4_0 : List (Nat × Nat) := [(2, 12), (2, 14), (2, 16), (2, 18), (2, 20), (2, 22)]
def mw_lay4 : List (Nat × Nat) := mw_lay4_0
def mw_lay5_0 : List (Nat × Nat) := [(1, 139), (1, 141), (1, 143), (1, 145), (1, 147), (1, 149), (1, 151), (1, 153), (1, 155), (1, 157), (1, 159), (1, 161), (1, 163), (1, 165), (1, 167), (1, 169), (1, 171)]
def mw_lay5 : List (Nat × Nat) := mw_lay5_0
def mw_lay6_0 : List (Nat × Nat) := [(2, 33), (2, 35), (2, 37), (2, 39), (2, 41), (2, 43), (2, 45), (2, 47)]
def mw_lay6 : List (Nat × Nat) := mw_lay6_0
def mw_lay : List (List (Nat × Nat)) := [mw_lay0, mw_lay1, mw_lay2, mw_lay3, mw_lay4, mw_lay5, mw_lay6]
def mw_con_0 : List (Nat × Nat) := [(2, 87), (4, 162), (4, 10), (4, 18), (2, 144), (2, 148), (5, 88)]
def mw_con : List (Nat × Nat) := mw_con_0
def mw_q (k : Nat) : List Cond := if k = 1 then tables_1_1 else if k = 2 then tables_1_2 else if k = 3 then tables_1_3 else if k = 4 then tables_1_4 else if k = 5 then tables_1_5 else []
def mw_at (p : Nat × Nat) : Option Cond := (mw_q p.1)[p.2]?
def mw_ok (w : Cond) (p : Nat × Nat) : Bool := decide (mw_at p = some w) && goodWord w
theorem mw_in {w : Cond} {p : Nat × Nat} (h : mw_ok w p = true) : w ∈ lw_tbl ∧ goodWord w = true := by
  simp only [mw_ok, Bool.and_eq_true, decide_eq_true_eq] at h
  refine ⟨?_, h.2⟩
  have h1 : w ∈ mw_q p.1 := List.mem_of_getElem? h.1
  have h2 : w ∈ tables_1 := by
    unfold tables_1
    simp only [List.mem_append]
    unfold mw_q at h1
    split at h1
    · exact Or.inl h1
    · split at h1
      · exact Or.inr (Or.inl h1)
      · split at h1
        · exact Or.inr (Or.inr (Or.inl h1))
        · split at h1
          · exact Or.inr (Or.inr (Or.inr (Or.inl h1)))
          · split at h1
            · exact Or.inr (Or.inr (Or.inr (Or.inr h1)))
            · cases h1
  exact List.mem_append_right _ h2
def m_cn (c : Nat) : String := ([RX0, RX1, RX2, RX3, RX4, RX5, RX6, RX6, RL] : List String).getD c RL
def m_cl3 (c : Nat) : vw_C := vwCl.getD c (RX0, TX0, 7)
def m_sta (m : Nat) : Bool := mm_staL.getD m 1 == 1
def m_rty (m : Nat) : Option FieldType := match m_ret m with
  | 0 => none
  | 1 => some .int
  | 2 => some .boolean
  | 3 => some .long
  | 4 => some (.object "NetworkCenters$Network")
  | _ => some (.object "java/lang/String")
def m_cod (m : Nat) : Cond := match m_han m with
  | [] => .code (m_nam m) (m_byt m) (m_max m) (m_rty m)
  | hh => .codeWith (m_nam m) (m_byt m) (m_max m) (m_rty m) hh
def m_ism (m : Nat) : Cond := if m_sta m = true then .static (m_nam m) else .instanceMethod (m_nam m)
def mw_sl (m : Nat) (p : Nat × Nat) : Bool := if p.1 = 0 then (lw_privs[p.2]?.map (fun q => q.1)) == some (m_nam m) && goodWord (.selects (m_nam m).cls (m_nam m) (m_nam m)) else if p.1 = 9 then m_sta m || (m_nam m).name == "<init>" else mw_ok (.selects (m_nam m).cls (m_nam m) (m_nam m)) p
def mw_ix (n : Nat) : List Nat := (List.range n)

set_option maxRecDepth 100000 in
theorem mw_c0 : mw_at (1, 212) = some (m_cod 0) := rfl
set_option maxRecDepth 100000 in
theorem mw_c1 : mw_at (4, 79) = some (m_cod 1) := rfl
set_option maxRecDepth 100000 in
theorem mw_c2 : mw_at (4, 50) = some (m_cod 2) := rfl
set_option maxRecDepth 100000 in
theorem mw_c3 : mw_at (4, 61) = some (m_cod 3) := rfl
set_option maxRecDepth 100000 in
theorem mw_c4 : mw_at (4, 65) = some (m_cod 4) := rfl
set_option maxRecDepth 100000 in
theorem mw_c5 : mw_at (4, 83) = some (m_cod 5) := rfl
set_option maxRecDepth 100000 in
theorem mw_c6 : mw_at (4, 76) = some (m_cod 6) := rfl
set_option maxRecDepth 100000 in
theorem mw_c7 : mw_at (5, 16) = some (m_cod 7) := rfl
set_option maxRecDepth 100000 in
theorem mw_c8 : mw_at (5, 20) = some (m_cod 8) := rfl
set_option maxRecDepth 100000 in
theorem mw_c9 : mw_at (5, 31) = some (m_cod 9) := rfl
set_option maxRecDepth 100000 in
theorem mw_c10 : mw_at (5, 35) = some (m_cod 10) := rfl
set_option maxRecDepth 100000 in
theorem mw_c11 : mw_at (1, 27) = some (m_cod 11) := rfl
set_option maxRecDepth 100000 in
theorem mw_c12 : mw_at (1, 43) = some (m_cod 12) := rfl
set_option maxRecDepth 100000 in
theorem mw_c13 : mw_at (2, 73) = some (m_cod 13) := rfl
set_option maxRecDepth 100000 in
theorem mw_c14 : mw_at (2, 61) = some (m_cod 14) := rfl
set_option maxRecDepth 100000 in
theorem mw_c15 : mw_at (3, 18) = some (m_cod 15) := rfl
set_option maxRecDepth 100000 in
theorem mw_c16 : mw_at (3, 79) = some (m_cod 16) := rfl
set_option maxRecDepth 100000 in
theorem mw_c17 : mw_at (3, 138) = some (m_cod 17) := rfl
set_option maxRecDepth 100000 in
theorem mw_c18 : mw_at (3, 161) = some (m_cod 18) := rfl
set_option maxRecDepth 100000 in
theorem mw_c19 : mw_at (3, 216) = some (m_cod 19) := rfl
set_option maxRecDepth 100000 in
theorem mw_c20 : mw_at (4, 185) = some (m_cod 20) := rfl
set_option maxRecDepth 100000 in
theorem mw_c21 : mw_at (3, 22) = some (m_cod 21) := rfl
set_option maxRecDepth 100000 in
theorem mw_c22 : mw_at (3, 14) = some (m_cod 22) := rfl
set_option maxRecDepth 100000 in
theorem mw_c23 : mw_at (3, 102) = some (m_cod 23) := rfl
set_option maxRecDepth 100000 in
theorem mw_c24 : mw_at (3, 122) = some (m_cod 24) := rfl
set_option maxRecDepth 100000 in
theorem mw_c25 : mw_at (3, 67) = some (m_cod 25) := rfl
set_option maxRecDepth 100000 in
theorem mw_c26 : mw_at (3, 127) = some (m_cod 26) := rfl
set_option maxRecDepth 100000 in
theorem mw_c27 : mw_at (3, 83) = some (m_cod 27) := rfl
set_option maxRecDepth 100000 in
theorem mw_c28 : mw_at (3, 87) = some (m_cod 28) := rfl
set_option maxRecDepth 100000 in
theorem mw_c29 : mw_at (4, 22) = some (m_cod 29) := rfl
set_option maxRecDepth 100000 in
theorem mw_c30 : mw_at (4, 1) = some (m_cod 30) := rfl
set_option maxRecDepth 100000 in
theorem mw_c31 : mw_at (4, 5) = some (m_cod 31) := rfl
set_option maxRecDepth 100000 in
theorem mw_c32 : mw_at (4, 26) = some (m_cod 32) := rfl
set_option maxRecDepth 100000 in
theorem mw_c33 : mw_at (2, 116) = some (m_cod 33) := rfl
set_option maxRecDepth 100000 in
theorem mw_c34 : mw_at (1, 178) = some (m_cod 34) := rfl
set_option maxRecDepth 100000 in
theorem mw_c35 : mw_at (4, 92) = some (m_cod 35) := rfl
set_option maxRecDepth 100000 in
theorem mw_c36 : mw_at (4, 97) = some (m_cod 36) := rfl
set_option maxRecDepth 100000 in
theorem mw_c37 : mw_at (4, 131) = some (m_cod 37) := rfl
set_option maxRecDepth 100000 in
theorem mw_c38 : mw_at (4, 135) = some (m_cod 38) := rfl
set_option maxRecDepth 100000 in
theorem mw_c39 : mw_at (4, 127) = some (m_cod 39) := rfl
set_option maxRecDepth 100000 in
theorem mw_c40 : mw_at (4, 101) = some (m_cod 40) := rfl
set_option maxRecDepth 100000 in
theorem mw_c41 : mw_at (4, 113) = some (m_cod 41) := rfl
set_option maxRecDepth 100000 in
theorem mw_c42 : mw_at (4, 117) = some (m_cod 42) := rfl
set_option maxRecDepth 100000 in
theorem mw_c43 : mw_at (1, 33) = some (m_cod 43) := rfl
set_option maxRecDepth 100000 in
theorem mw_c44 : mw_at (2, 69) = some (m_cod 44) := rfl
set_option maxRecDepth 100000 in
theorem mw_c45 : mw_at (2, 82) = some (m_cod 45) := rfl
set_option maxRecDepth 100000 in
theorem mw_c46 : mw_at (1, 47) = some (m_cod 46) := rfl
set_option maxRecDepth 100000 in
theorem mw_c47 : mw_at (2, 77) = some (m_cod 47) := rfl
set_option maxRecDepth 100000 in
theorem mw_c48 : mw_at (2, 65) = some (m_cod 48) := rfl
set_option maxRecDepth 100000 in
theorem mw_c49 : mw_at (4, 121) = some (m_cod 49) := rfl
set_option maxRecDepth 100000 in
theorem mw_c50 : mw_at (3, 91) = some (m_cod 50) := rfl
set_option maxRecDepth 100000 in
theorem mw_c51 : mw_at (2, 4) = some (m_cod 51) := rfl
set_option maxRecDepth 100000 in
theorem mw_c52 : mw_at (5, 65) = some (m_cod 52) := rfl
set_option maxRecDepth 100000 in
theorem mw_c53 : mw_at (3, 164) = some (m_cod 53) := rfl
set_option maxRecDepth 100000 in
theorem mw_c54 : mw_at (3, 164) = some (m_cod 54) := rfl
set_option maxRecDepth 100000 in
theorem mw_c55 : mw_at (3, 164) = some (m_cod 55) := rfl
set_option maxRecDepth 100000 in
theorem mw_c56 : mw_at (3, 164) = some (m_cod 56) := rfl
set_option maxRecDepth 100000 in
theorem mw_c57 : mw_at (3, 164) = some (m_cod 57) := rfl
set_option maxRecDepth 100000 in
theorem mw_c58 : mw_at (3, 164) = some (m_cod 58) := rfl
set_option maxRecDepth 100000 in
theorem mw_c59 : mw_at (3, 164) = some (m_cod 59) := rfl
set_option maxRecDepth 100000 in
theorem mw_c60 : mw_at (3, 164) = some (m_cod 60) := rfl
set_option maxRecDepth 100000 in
theorem mw_c61 : mw_at (3, 164) = some (m_cod 61) := rfl
set_option maxRecDepth 100000 in
theorem mw_c62 : mw_at (3, 164) = some (m_cod 62) := rfl
set_option maxRecDepth 100000 in
theorem mw_c63 : mw_at (3, 164) = some (m_cod 63) := rfl
set_option maxRecDepth 100000 in
theorem mw_c64 : mw_at (1, 106) = some (m_cod 64) := rfl
set_option maxRecDepth 100000 in
theorem mw_c65 : mw_at (2, 57) = some (m_cod 65) := rfl
set_option maxRecDepth 100000 in
theorem mw_c66 : mw_at (3, 168) = some (m_cod 66) := rfl
set_option maxRecDepth 100000 in
theorem mw_c67 : mw_at (4, 70) = some (m_cod 67) := rfl
set_option maxRecDepth 100000 in
theorem mw_c68 : mw_at (4, 54) = some (m_cod 68) := rfl
set_option maxRecDepth 100000 in
theorem mw_c69 : mw_at (2, 92) = some (m_cod 69) := rfl
set_option maxRecDepth 100000 in
theorem mw_c70 : mw_at (4, 105) = some (m_cod 70) := rfl
set_option maxRecDepth 100000 in
theorem mw_c71 : mw_at (2, 100) = some (m_cod 71) := rfl
set_option maxRecDepth 100000 in
theorem mw_c72 : mw_at (2, 86) = some (m_cod 72) := rfl
set_option maxRecDepth 100000 in
theorem mw_c73 : mw_at (2, 96) = some (m_cod 73) := rfl
set_option maxRecDepth 100000 in
theorem mw_c74 : mw_at (2, 104) = some (m_cod 74) := rfl
set_option maxRecDepth 100000 in
theorem mw_c75 : mw_at (2, 137) = some (m_cod 75) := rfl
set_option maxRecDepth 100000 in
theorem mw_c76 : mw_at (4, 173) = some (m_cod 76) := rfl
set_option maxRecDepth 100000 in
theorem mw_c77 : mw_at (2, 129) = some (m_cod 77) := rfl
set_option maxRecDepth 100000 in
theorem mw_c78 : mw_at (2, 125) = some (m_cod 78) := rfl
set_option maxRecDepth 100000 in
theorem mw_c79 : mw_at (3, 188) = some (m_cod 79) := rfl
set_option maxRecDepth 100000 in
theorem mw_c80 : mw_at (3, 184) = some (m_cod 80) := rfl
set_option maxRecDepth 100000 in
theorem mw_c81 : mw_at (3, 180) = some (m_cod 81) := rfl
set_option maxRecDepth 100000 in
theorem mw_c82 : mw_at (4, 46) = some (m_cod 82) := rfl
set_option maxRecDepth 100000 in
theorem mw_c83 : mw_at (5, 47) = some (m_cod 83) := rfl
set_option maxRecDepth 100000 in
theorem mw_c84 : mw_at (2, 108) = some (m_cod 84) := rfl
set_option maxRecDepth 100000 in
theorem mw_c85 : mw_at (2, 112) = some (m_cod 85) := rfl
set_option maxRecDepth 100000 in
theorem mw_c86 : mw_at (2, 121) = some (m_cod 86) := rfl
set_option maxRecDepth 100000 in
theorem mw_c87 : mw_at (2, 133) = some (m_cod 87) := rfl
set_option maxRecDepth 100000 in
theorem mw_c88 : mw_at (3, 172) = some (m_cod 88) := rfl
set_option maxRecDepth 100000 in
theorem mw_c89 : mw_at (4, 42) = some (m_cod 89) := rfl
set_option maxRecDepth 100000 in
theorem mw_c90 : mw_at (3, 176) = some (m_cod 90) := rfl
set_option maxRecDepth 100000 in
theorem mw_c91 : mw_at (3, 195) = some (m_cod 91) := rfl
set_option maxRecDepth 100000 in
theorem mw_c92 : mw_at (3, 199) = some (m_cod 92) := rfl
set_option maxRecDepth 100000 in
theorem mw_c93 : mw_at (4, 38) = some (m_cod 93) := rfl
set_option maxRecDepth 100000 in
theorem mw_c94 : mw_at (1, 19) = some (m_cod 94) := rfl
set_option maxRecDepth 100000 in
theorem mw_c95 : mw_at (2, 156) = some (m_cod 95) := rfl
set_option maxRecDepth 100000 in
theorem mw_c96 : mw_at (3, 10) = some (m_cod 96) := rfl
set_option maxRecDepth 100000 in
theorem mw_c97 : mw_at (3, 75) = some (m_cod 97) := rfl
set_option maxRecDepth 100000 in
theorem mw_c98 : mw_at (3, 98) = some (m_cod 98) := rfl
set_option maxRecDepth 100000 in
theorem mw_c99 : mw_at (3, 111) = some (m_cod 99) := rfl
set_option maxRecDepth 100000 in
theorem mw_c100 : mw_at (3, 118) = some (m_cod 100) := rfl
set_option maxRecDepth 100000 in
theorem mw_c101 : mw_at (3, 134) = some (m_cod 101) := rfl
set_option maxRecDepth 100000 in
theorem mw_c102 : mw_at (3, 146) = some (m_cod 102) := rfl
set_option maxRecDepth 100000 in
theorem mw_c103 : mw_at (4, 146) = some (m_cod 103) := rfl
set_option maxRecDepth 100000 in
theorem mw_c104 : mw_at (3, 236) = some (m_cod 104) := rfl
set_option maxRecDepth 100000 in
theorem mw_c105 : mw_at (4, 153) = some (m_cod 105) := rfl
set_option maxRecDepth 100000 in
theorem mw_c106 : mw_at (4, 160) = some (m_cod 106) := rfl
set_option maxRecDepth 100000 in
theorem mw_c107 : mw_at (4, 169) = some (m_cod 107) := rfl
set_option maxRecDepth 100000 in
theorem mw_c108 : mw_at (2, 53) = some (m_cod 108) := rfl
set_option maxRecDepth 100000 in
theorem mw_c109 : mw_at (4, 181) = some (m_cod 109) := rfl
set_option maxRecDepth 100000 in
theorem mw_c110 : mw_at (4, 193) = some (m_cod 110) := rfl
set_option maxRecDepth 100000 in
theorem mw_c111 : mw_at (4, 201) = some (m_cod 111) := rfl
set_option maxRecDepth 100000 in
theorem mw_c112 : mw_at (4, 209) = some (m_cod 112) := rfl
set_option maxRecDepth 100000 in
theorem mw_c113 : mw_at (4, 217) = some (m_cod 113) := rfl
set_option maxRecDepth 100000 in
theorem mw_c114 : mw_at (3, 157) = some (m_cod 114) := rfl
set_option maxRecDepth 100000 in
theorem mw_c115 : mw_at (4, 224) = some (m_cod 115) := rfl
set_option maxRecDepth 100000 in
theorem mw_c116 : mw_at (4, 231) = some (m_cod 116) := rfl
set_option maxRecDepth 100000 in
theorem mw_c117 : mw_at (4, 238) = some (m_cod 117) := rfl
set_option maxRecDepth 100000 in
theorem mw_c118 : mw_at (5, 5) = some (m_cod 118) := rfl
set_option maxRecDepth 100000 in
theorem mw_c119 : mw_at (5, 12) = some (m_cod 119) := rfl
set_option maxRecDepth 100000 in
theorem mw_c120 : mw_at (5, 27) = some (m_cod 120) := rfl
set_option maxRecDepth 100000 in
theorem mw_c121 : mw_at (5, 43) = some (m_cod 121) := rfl
set_option maxRecDepth 100000 in
theorem mw_c122 : mw_at (3, 212) = some (m_cod 122) := rfl
set_option maxRecDepth 100000 in
theorem mw_c123 : mw_at (5, 54) = some (m_cod 123) := rfl
set_option maxRecDepth 100000 in
theorem mw_c124 : mw_at (5, 61) = some (m_cod 124) := rfl
set_option maxRecDepth 100000 in
theorem mw_c125 : mw_at (3, 164) = some (m_cod 125) := rfl
set_option maxRecDepth 100000 in
theorem mw_c126 : mw_at (3, 164) = some (m_cod 126) := rfl
set_option maxRecDepth 100000 in
theorem mw_c127 : mw_at (3, 164) = some (m_cod 127) := rfl
set_option maxRecDepth 100000 in
theorem mw_c128 : mw_at (3, 223) = some (m_cod 128) := rfl
set_option maxRecDepth 100000 in
theorem mw_c129 : mw_at (4, 9) = some (m_cod 129) := rfl
set_option maxRecDepth 100000 in
theorem mw_c130 : mw_at (3, 28) = some (m_cod 130) := rfl
set_option maxRecDepth 100000 in
theorem mw_c131 : mw_at (2, 159) = some (m_cod 131) := rfl
set_option maxRecDepth 100000 in
theorem mw_c132 : mw_at (3, 47) = some (m_cod 132) := rfl
set_option maxRecDepth 100000 in
theorem mw_c133 : mw_at (3, 25) = some (m_cod 133) := rfl
set_option maxRecDepth 100000 in
theorem mw_c134 : mw_at (3, 164) = some (m_cod 134) := rfl
set_option maxRecDepth 100000 in
theorem mw_c135 : mw_at (3, 202) = some (m_cod 135) := rfl
set_option maxRecDepth 100000 in
theorem mw_c136 : mw_at (3, 205) = some (m_cod 136) := rfl
set_option maxRecDepth 100000 in
theorem mw_c137 : mw_at (2, 239) = some (m_cod 137) := rfl
set_option maxRecDepth 100000 in
theorem mw_c138 : mw_at (2, 231) = some (m_cod 138) := rfl
set_option maxRecDepth 100000 in
theorem mw_c139 : mw_at (2, 235) = some (m_cod 139) := rfl
set_option maxRecDepth 100000 in
theorem mw_c140 : mw_at (3, 164) = some (m_cod 140) := rfl
set_option maxRecDepth 100000 in
theorem mw_c141 : mw_at (3, 150) = some (m_cod 141) := rfl
set_option maxRecDepth 100000 in
theorem mw_c142 : mw_at (4, 139) = some (m_cod 142) := rfl
set_option maxRecDepth 100000 in
theorem mw_c143 : mw_at (4, 34) = some (m_cod 143) := rfl
set_option maxRecDepth 100000 in
theorem mw_c144 : mw_at (4, 87) = some (m_cod 144) := rfl
set_option maxRecDepth 100000 in
theorem mw_c145 : mw_at (4, 17) = some (m_cod 145) := rfl
set_option maxRecDepth 100000 in
theorem mw_c146 : mw_at (4, 14) = some (m_cod 146) := rfl
set_option maxRecDepth 100000 in
theorem mw_c147 : mw_at (4, 30) = some (m_cod 147) := rfl
set_option maxRecDepth 100000 in
theorem mw_c148 : mw_at (3, 164) = some (m_cod 148) := rfl
set_option maxRecDepth 100000 in
theorem mw_c149 : mw_at (3, 164) = some (m_cod 149) := rfl
set_option maxRecDepth 100000 in
theorem mw_c150 : mw_at (3, 164) = some (m_cod 150) := rfl
set_option maxRecDepth 100000 in
theorem mw_c151 : mw_at (3, 164) = some (m_cod 151) := rfl
set_option maxRecDepth 100000 in
theorem mw_c152 : mw_at (3, 164) = some (m_cod 152) := rfl
set_option maxRecDepth 100000 in
theorem mw_c153 : mw_at (3, 164) = some (m_cod 153) := rfl
set_option maxRecDepth 100000 in
theorem mw_c154 : mw_at (3, 164) = some (m_cod 154) := rfl
set_option maxRecDepth 100000 in
theorem mw_c155 : mw_at (3, 164) = some (m_cod 155) := rfl
set_option maxRecDepth 100000 in
theorem mw_c156 : mw_at (3, 164) = some (m_cod 156) := rfl
set_option maxRecDepth 100000 in
theorem mw_c157 : mw_at (3, 164) = some (m_cod 157) := rfl
set_option maxRecDepth 100000 in
theorem mw_c158 : mw_at (3, 164) = some (m_cod 158) := rfl
set_option maxRecDepth 100000 in
theorem mw_c159 : mw_at (3, 164) = some (m_cod 159) := rfl
set_option maxRecDepth 100000 in
theorem mw_c160 : mw_at (3, 164) = some (m_cod 160) := rfl
set_option maxRecDepth 100000 in
theorem mw_c161 : mw_at (3, 164) = some (m_cod 161) := rfl
set_option maxRecDepth 100000 in
theorem mw_c162 : mw_at (3, 164) = some (m_cod 162) := rfl
set_option maxRecDepth 100000 in
theorem mw_c163 : mw_at (3, 164) = some (m_cod 163) := rfl
set_option maxRecDepth 100000 in
theorem mw_c164 : mw_at (3, 164) = some (m_cod 164) := rfl
set_option maxRecDepth 100000 in
theorem mw_c165 : mw_at (3, 164) = some (m_cod 165) := rfl
set_option maxRecDepth 100000 in
theorem mw_c166 : mw_at (3, 164) = some (m_cod 166) := rfl
set_option maxRecDepth 100000 in
theorem mw_c167 : mw_at (3, 164) = some (m_cod 167) := rfl
set_option maxRecDepth 100000 in
theorem mw_c168 : mw_at (3, 164) = some (m_cod 168) := rfl
set_option maxRecDepth 100000 in
theorem mw_c169 : mw_at (3, 164) = some (m_cod 169) := rfl
set_option maxRecDepth 100000 in
theorem mw_c170 : mw_at (3, 164) = some (m_cod 170) := rfl
set_option maxRecDepth 100000 in
theorem mw_c171 : mw_at (3, 164) = some (m_cod 171) := rfl
set_option maxRecDepth 100000 in
theorem mw_c172 : mw_at (3, 164) = some (m_cod 172) := rfl
set_option maxRecDepth 100000 in
theorem mw_c173 : mw_at (3, 164) = some (m_cod 173) := rfl
set_option maxRecDepth 100000 in
theorem mw_c174 : mw_at (3, 164) = some (m_cod 174) := rfl
set_option maxRecDepth 100000 in
theorem mw_c175 : mw_at (3, 164) = some (m_cod 175) := rfl
set_option maxRecDepth 100000 in
theorem mw_c176 : mw_at (3, 164) = some (m_cod 176) := rfl
set_option maxRecDepth 100000 in
theorem mw_c177 : mw_at (3, 164) = some (m_cod 177) := rfl
set_option maxRecDepth 100000 in
theorem mw_c178 : mw_at (3, 164) = some (m_cod 178) := rfl
set_option maxRecDepth 100000 in
theorem mw_c179 : mw_at (3, 164) = some (m_cod 179) := rfl
set_option maxRecDepth 100000 in
theorem mw_c180 : mw_at (3, 164) = some (m_cod 180) := rfl
set_option maxRecDepth 100000 in
theorem mw_c181 : mw_at (3, 164) = some (m_cod 181) := rfl
set_option maxRecDepth 100000 in
theorem mw_c182 : mw_at (3, 164) = some (m_cod 182) := rfl
set_option maxRecDepth 100000 in
theorem mw_c183 : mw_at (3, 164) = some (m_cod 183) := rfl
set_option maxRecDepth 100000 in
theorem mw_c184 : mw_at (3, 164) = some (m_cod 184) := rfl
set_option maxRecDepth 100000 in
theorem mw_c185 : mw_at (3, 164) = some (m_cod 185) := rfl
set_option maxRecDepth 100000 in
theorem mw_c186 : mw_at (3, 164) = some (m_cod 186) := rfl
set_option maxRecDepth 100000 in
theorem mw_c187 : mw_at (3, 164) = some (m_cod 187) := rfl
set_option maxRecDepth 100000 in
theorem mw_c188 : mw_at (3, 164) = some (m_cod 188) := rfl
set_option maxRecDepth 100000 in
theorem mw_c189 : mw_at (3, 164) = some (m_cod 189) := rfl
set_option maxRecDepth 100000 in
theorem mw_c190 : mw_at (3, 164) = some (m_cod 190) := rfl
set_option maxRecDepth 100000 in
theorem mw_c191 : mw_at (3, 164) = some (m_cod 191) := rfl
set_option maxRecDepth 100000 in
theorem mw_c192 : mw_at (3, 164) = some (m_cod 192) := rfl
set_option maxRecDepth 100000 in
theorem mw_c193 : mw_at (3, 164) = some (m_cod 193) := rfl
set_option maxRecDepth 100000 in
theorem mw_c194 : mw_at (3, 164) = some (m_cod 194) := rfl
set_option maxRecDepth 100000 in
theorem mw_c195 : mw_at (3, 164) = some (m_cod 195) := rfl
set_option maxRecDepth 100000 in
theorem mw_c196 : mw_at (3, 164) = some (m_cod 196) := rfl
set_option maxRecDepth 100000 in
theorem mw_c197 : mw_at (3, 164) = some (m_cod 197) := rfl
set_option maxRecDepth 100000 in
theorem mw_c198 : mw_at (3, 164) = some (m_cod 198) := rfl
set_option maxRecDepth 100000 in
theorem mw_c199 : mw_at (3, 164) = some (m_cod 199) := rfl
set_option maxRecDepth 100000 in
theorem mw_c200 : mw_at (3, 164) = some (m_cod 200) := rfl
set_option maxRecDepth 100000 in
theorem mw_c201 : mw_at (3, 164) = some (m_cod 201) := rfl
set_option maxRecDepth 100000 in
theorem mw_c202 : mw_at (3, 164) = some (m_cod 202) := rfl
set_option maxRecDepth 100000 in
theorem mw_c203 : mw_at (3, 164) = some (m_cod 203) := rfl
set_option maxRecDepth 100000 in
theorem mw_c204 : mw_at (3, 164) = some (m_cod 204) := rfl
set_option maxRecDepth 100000 in
theorem mw_c205 : mw_at (3, 164) = some (m_cod 205) := rfl
set_option maxRecDepth 100000 in
theorem mw_c206 : mw_at (3, 164) = some (m_cod 206) := rfl
set_option maxRecDepth 100000 in
theorem mw_c207 : mw_at (3, 164) = some (m_cod 207) := rfl
set_option maxRecDepth 100000 in
theorem mw_c208 : mw_at (3, 164) = some (m_cod 208) := rfl
set_option maxRecDepth 100000 in
theorem mw_c209 : mw_at (3, 164) = some (m_cod 209) := rfl
set_option maxRecDepth 100000 in
theorem mw_c210 : mw_at (3, 164) = some (m_cod 210) := rfl
set_option maxRecDepth 100000 in
theorem mw_c211 : mw_at (3, 164) = some (m_cod 211) := rfl
set_option maxRecDepth 100000 in
theorem mw_c212 : mw_at (3, 164) = some (m_cod 212) := rfl
set_option maxRecDepth 100000 in
theorem mw_c213 : mw_at (3, 164) = some (m_cod 213) := rfl
set_option maxRecDepth 100000 in
theorem mw_c214 : mw_at (3, 164) = some (m_cod 214) := rfl
set_option maxRecDepth 100000 in
theorem mw_c215 : mw_at (3, 164) = some (m_cod 215) := rfl
set_option maxRecDepth 100000 in
theorem mw_c216 : mw_at (3, 164) = some (m_cod 216) := rfl
set_option maxRecDepth 100000 in
theorem mw_c217 : mw_at (3, 164) = some (m_cod 217) := rfl
set_option maxRecDepth 100000 in
theorem mw_c218 : mw_at (3, 164) = some (m_cod 218) := rfl
set_option maxRecDepth 100000 in
theorem mw_c219 : mw_at (3, 164) = some (m_cod 219) := rfl
set_option maxRecDepth 100000 in
theorem mw_c220 : mw_at (3, 164) = some (m_cod 220) := rfl
set_option maxRecDepth 100000 in
theorem mw_c221 : mw_at (3, 164) = some (m_cod 221) := rfl
set_option maxRecDepth 100000 in
theorem mw_c222 : mw_at (3, 164) = some (m_cod 222) := rfl
set_option maxRecDepth 100000 in
theorem mw_c223 : mw_at (3, 164) = some (m_cod 223) := rfl
set_option maxRecDepth 100000 in
theorem mw_c224 : mw_at (3, 164) = some (m_cod 224) := rfl
set_option maxRecDepth 100000 in
theorem mw_c225 : mw_at (3, 164) = some (m_cod 225) := rfl
set_option maxRecDepth 100000 in
theorem mw_c226 : mw_at (3, 164) = some (m_cod 226) := rfl
set_option maxRecDepth 100000 in
theorem mw_c227 : mw_at (3, 164) = some (m_cod 227) := rfl
set_option maxRecDepth 100000 in
theorem mw_c228 : mw_at (3, 164) = some (m_cod 228) := rfl
set_option maxRecDepth 100000 in
theorem mw_c229 : mw_at (3, 164) = some (m_cod 229) := rfl
set_option maxRecDepth 100000 in
theorem mw_c230 : mw_at (3, 164) = some (m_cod 230) := rfl
set_option maxRecDepth 100000 in
theorem mw_c231 : mw_at (3, 164) = some (m_cod 231) := rfl
set_option maxRecDepth 100000 in
theorem mw_c232 : mw_at (3, 164) = some (m_cod 232) := rfl
set_option maxRecDepth 100000 in
theorem mw_c233 : mw_at (3, 164) = some (m_cod 233) := rfl
set_option maxRecDepth 100000 in
theorem mw_c234 : mw_at (3, 164) = some (m_cod 234) := rfl
set_option maxRecDepth 100000 in
theorem mw_c235 : mw_at (3, 164) = some (m_cod 235) := rfl
set_option maxRecDepth 100000 in
theorem mw_c236 : mw_at (3, 164) = some (m_cod 236) := rfl
set_option maxRecDepth 100000 in
theorem mw_c237 : mw_at (3, 164) = some (m_cod 237) := rfl
set_option maxRecDepth 100000 in
theorem mw_c238 : mw_at (3, 164) = some (m_cod 238) := rfl
set_option maxRecDepth 100000 in
theorem mw_c239 : mw_at (3, 164) = some (m_cod 239) := rfl
set_option maxRecDepth 100000 in
theorem mw_c240 : mw_at (3, 164) = some (m_cod 240) := rfl
set_option maxRecDepth 100000 in
theorem mw_c241 : mw_at (2, 143) = some (m_cod 241) := rfl
set_option maxRecDepth 100000 in
theorem mw_c242 : mw_at (2, 147) = some (m_cod 242) := rfl
set_option maxRecDepth 100000 in
theorem mw_c243 : mw_at (2, 151) = some (m_cod 243) := rfl
set_option maxRecDepth 100000 in
theorem mw_c244 : mw_at (3, 4) = some (m_cod 244) := rfl
set_option maxRecDepth 100000 in
theorem mw_c245 : mw_at (3, 71) = some (m_cod 245) := rfl
set_option maxRecDepth 100000 in
theorem mw_c246 : mw_at (3, 94) = some (m_cod 246) := rfl
set_option maxRecDepth 100000 in
theorem mw_c247 : mw_at (3, 107) = some (m_cod 247) := rfl
set_option maxRecDepth 100000 in
theorem mw_c248 : mw_at (3, 114) = some (m_cod 248) := rfl
set_option maxRecDepth 100000 in
theorem mw_c249 : mw_at (3, 130) = some (m_cod 249) := rfl
set_option maxRecDepth 100000 in
theorem mw_c250 : mw_at (3, 142) = some (m_cod 250) := rfl
set_option maxRecDepth 100000 in
theorem mw_c251 : mw_at (4, 142) = some (m_cod 251) := rfl
set_option maxRecDepth 100000 in
theorem mw_c252 : mw_at (3, 232) = some (m_cod 252) := rfl
set_option maxRecDepth 100000 in
theorem mw_c253 : mw_at (4, 149) = some (m_cod 253) := rfl
set_option maxRecDepth 100000 in
theorem mw_c254 : mw_at (4, 156) = some (m_cod 254) := rfl
set_option maxRecDepth 100000 in
theorem mw_c255 : mw_at (4, 165) = some (m_cod 255) := rfl
set_option maxRecDepth 100000 in
theorem mw_c256 : mw_at (4, 177) = some (m_cod 256) := rfl
set_option maxRecDepth 100000 in
theorem mw_c257 : mw_at (4, 189) = some (m_cod 257) := rfl
set_option maxRecDepth 100000 in
theorem mw_c258 : mw_at (4, 197) = some (m_cod 258) := rfl
set_option maxRecDepth 100000 in
theorem mw_c259 : mw_at (4, 205) = some (m_cod 259) := rfl
set_option maxRecDepth 100000 in
theorem mw_c260 : mw_at (4, 213) = some (m_cod 260) := rfl
set_option maxRecDepth 100000 in
theorem mw_c261 : mw_at (3, 153) = some (m_cod 261) := rfl
set_option maxRecDepth 100000 in
theorem mw_c262 : mw_at (4, 220) = some (m_cod 262) := rfl
set_option maxRecDepth 100000 in
theorem mw_c263 : mw_at (4, 227) = some (m_cod 263) := rfl
set_option maxRecDepth 100000 in
theorem mw_c264 : mw_at (4, 234) = some (m_cod 264) := rfl
set_option maxRecDepth 100000 in
theorem mw_c265 : mw_at (5, 1) = some (m_cod 265) := rfl
set_option maxRecDepth 100000 in
theorem mw_c266 : mw_at (5, 8) = some (m_cod 266) := rfl
set_option maxRecDepth 100000 in
theorem mw_c267 : mw_at (5, 23) = some (m_cod 267) := rfl
set_option maxRecDepth 100000 in
theorem mw_c268 : mw_at (5, 39) = some (m_cod 268) := rfl
set_option maxRecDepth 100000 in
theorem mw_c269 : mw_at (3, 208) = some (m_cod 269) := rfl
set_option maxRecDepth 100000 in
theorem mw_c270 : mw_at (5, 50) = some (m_cod 270) := rfl
set_option maxRecDepth 100000 in
theorem mw_c271 : mw_at (5, 57) = some (m_cod 271) := rfl
set_option maxRecDepth 100000 in
theorem mw_c272 : mw_at (3, 219) = some (m_cod 272) := rfl
set_option maxRecDepth 100000 in
theorem mw_c273 : mw_at (3, 229) = some (m_cod 273) := rfl
set_option maxRecDepth 100000 in
theorem mw_c274 : mw_at (3, 226) = some (m_cod 274) := rfl
set_option maxRecDepth 100000 in
theorem mw_c275 : mw_at (5, 75) = some (m_cod 275) := rfl
set_option maxRecDepth 100000 in
theorem mw_c276 : mw_at (5, 78) = some (m_cod 276) := rfl
set_option maxRecDepth 100000 in
theorem mw_c277 : mw_at (5, 69) = some (m_cod 277) := rfl
set_option maxRecDepth 100000 in
theorem mw_c278 : mw_at (5, 72) = some (m_cod 278) := rfl
set_option maxRecDepth 100000 in
theorem mw_c279 : mw_at (5, 81) = some (m_cod 279) := rfl
set_option maxRecDepth 100000 in
theorem mw_c280 : mw_at (5, 84) = some (m_cod 280) := rfl
set_option maxRecDepth 100000 in
theorem mw_c281 : mw_at (5, 87) = some (m_cod 281) := rfl
def mw_cp (i : Nat) : Prop := ∃ p, mw_at p = some (m_cod i)
theorem mw_cA_47 : ∀ i, i < 47 → mw_cp i := lt_s (lt_s (lt_s (lt_s (lt_s (lt_s (lt_s (lt_s (lt_s (lt_s (lt_s (lt_s (lt_s (lt_s (lt_s (lt_s (lt_s (lt_s (lt_s (lt_s (lt_s (lt_s (lt_s (lt_s (lt_s (lt_s (lt_s (lt_s (lt_s (lt_s (lt_s (lt_s (lt_s (lt_s (lt_s (lt_s (lt_s (lt_s (lt_s (lt_s (lt_s (lt_s (lt_s (lt_s (lt_s (lt_s (lt_s (lt_0) ⟨_, mw_c0⟩) ⟨_, mw_c1⟩) ⟨_, mw_c2⟩) ⟨_, mw_c3⟩) ⟨_, mw_c4⟩) ⟨_, mw_c5⟩) ⟨_, mw_c6⟩) ⟨_, mw_c7⟩) ⟨_, mw_c8⟩) ⟨_, mw_c9⟩) ⟨_, mw_c10⟩) ⟨_, mw_c11⟩) ⟨_, mw_c12⟩) ⟨_, mw_c13⟩) ⟨_, mw_c14⟩) ⟨_, mw_c15⟩) ⟨_, mw_c16⟩) ⟨_, mw_c17⟩) ⟨_, mw_c18⟩) ⟨_, mw_c19⟩) ⟨_, mw_c20⟩) ⟨_, mw_c21⟩) ⟨_, mw_c22⟩) ⟨_, mw_c23⟩) ⟨_, mw_c24⟩) ⟨_, mw_c25⟩) ⟨_, mw_c26⟩) ⟨_, mw_c27⟩) ⟨_, mw_c28⟩) ⟨_, mw_c29⟩) ⟨_, mw_c30⟩) ⟨_, mw_c31⟩) ⟨_, mw_c32⟩) ⟨_, mw_c33⟩) ⟨_, mw_c34⟩) ⟨_, mw_c35⟩) ⟨_, mw_c36⟩) ⟨_, mw_c37⟩) ⟨_, mw_c38⟩) ⟨_, mw_c39⟩) ⟨_, mw_c40⟩) ⟨_, mw_c41⟩) ⟨_, mw_c42⟩) ⟨_, mw_c43⟩) ⟨_, mw_c44⟩) ⟨_, mw_c45⟩) ⟨_, mw_c46⟩
theorem mw_cA_94 : ∀ i, i < 94 → mw_cp i := lt_s (lt_s (lt_s (lt_s (lt_s (lt_s (lt_s (lt_s (lt_s (lt_s (lt_s (lt_s (lt_s (lt_s (lt_s (lt_s (lt_s (lt_s (lt_s (lt_s (lt_s (lt_s (lt_s (lt_s (lt_s (lt_s (lt_s (lt_s (lt_s (lt_s (lt_s (lt_s (lt_s (lt_s (lt_s (lt_s (lt_s (lt_s (lt_s (lt_s (lt_s (lt_s (lt_s (lt_s (lt_s (lt_s (lt_s (mw_cA_47) ⟨_, mw_c47⟩) ⟨_, mw_c48⟩) ⟨_, mw_c49⟩) ⟨_, mw_c50⟩) ⟨_, mw_c51⟩) ⟨_, mw_c52⟩) ⟨_, mw_c53⟩) ⟨_, mw_c54⟩) ⟨_, mw_c55⟩) ⟨_, mw_c56⟩) ⟨_, mw_c57⟩) ⟨_, mw_c58⟩) ⟨_, mw_c59⟩) ⟨_, mw_c60⟩) ⟨_, mw_c61⟩) ⟨_, mw_c62⟩) ⟨_, mw_c63⟩) ⟨_, mw_c64⟩) ⟨_, mw_c65⟩) ⟨_, mw_c66⟩) ⟨_, mw_c67⟩) ⟨_, mw_c68⟩) ⟨_, mw_c69⟩) ⟨_, mw_c70⟩) ⟨_, mw_c71⟩) ⟨_, mw_c72⟩) ⟨_, mw_c73⟩) ⟨_, mw_c74⟩) ⟨_, mw_c75⟩) ⟨_, mw_c76⟩) ⟨_, mw_c77⟩) ⟨_, mw_c78⟩) ⟨_, mw_c79⟩) ⟨_, mw_c80⟩) ⟨_, mw_c81⟩) ⟨_, mw_c82⟩) ⟨_, mw_c83⟩) ⟨_, mw_c84⟩) ⟨_, mw_c85⟩) ⟨_, mw_c86⟩) ⟨_, mw_c87⟩) ⟨_, mw_c88⟩) ⟨_, mw_c89⟩) ⟨_, mw_c90⟩) ⟨_, mw_c91⟩) ⟨_, mw_c92⟩) ⟨_, mw_c93⟩
theorem mw_cA_141 : ∀ i, i < 141 → mw_cp i := lt_s (lt_s (lt_s (lt_s (lt_s (lt_s (lt_s (lt_s (lt_s (lt_s (lt_s (lt_s (lt_s (lt_s (lt_s (lt_s (lt_s (lt_s (lt_s (lt_s (lt_s (lt_s (lt_s (lt_s (lt_s (lt_s (lt_s (lt_s (lt_s (lt_s (lt_s (lt_s (lt_s (lt_s (lt_s (lt_s (lt_s (lt_s (lt_s (lt_s (lt_s (lt_s (lt_s (lt_s (lt_s (lt_s (lt_s (mw_cA_94) ⟨_, mw_c94⟩) ⟨_, mw_c95⟩) ⟨_, mw_c96⟩) ⟨_, mw_c97⟩) ⟨_, mw_c98⟩) ⟨_, mw_c99⟩) ⟨_, mw_c100⟩) ⟨_, mw_c101⟩) ⟨_, mw_c102⟩) ⟨_, mw_c103⟩) ⟨_, mw_c104⟩) ⟨_, mw_c105⟩) ⟨_, mw_c106⟩) ⟨_, mw_c107⟩) ⟨_, mw_c108⟩) ⟨_, mw_c109⟩) ⟨_, mw_c110⟩) ⟨_, mw_c111⟩) ⟨_, mw_c112⟩) ⟨_, mw_c113⟩) ⟨_, mw_c114⟩) ⟨_, mw_c115⟩) ⟨_, mw_c116⟩) ⟨_, mw_c117⟩) ⟨_, mw_c118⟩) ⟨_, mw_c119⟩) ⟨_, mw_c120⟩) ⟨_, mw_c121⟩) ⟨_, mw_c122⟩) ⟨_, mw_c123⟩) ⟨_, mw_c124⟩) ⟨_, mw_c125⟩) ⟨_, mw_c126⟩) ⟨_, mw_c127⟩) ⟨_, mw_c128⟩) ⟨_, mw_c129⟩) ⟨_, mw_c130⟩) ⟨_, mw_c131⟩) ⟨_, mw_c132⟩) ⟨_, mw_c133⟩) ⟨_, mw_c134⟩) ⟨_, mw_c135⟩) ⟨_, mw_c136⟩) ⟨_, mw_c137⟩) ⟨_, mw_c138⟩) ⟨_, mw_c139⟩) ⟨_, mw_c140⟩
theorem mw_cA_188 : ∀ i, i < 188 → mw_cp i := lt_s (lt_s (lt_s (lt_s (lt_s (lt_s (lt_s (lt_s (lt_s (lt_s (lt_s (lt_s (lt_s (lt_s (lt_s (lt_s (lt_s (lt_s (lt_s (lt_s (lt_s (lt_s (lt_s (lt_s (lt_s (lt_s (lt_s (lt_s (lt_s (lt_s (lt_s (lt_s (lt_s (lt_s (lt_s (lt_s (lt_s (lt_s (lt_s (lt_s (lt_s (lt_s (lt_s (lt_s (lt_s (lt_s (lt_s (mw_cA_141) ⟨_, mw_c141⟩) ⟨_, mw_c142⟩) ⟨_, mw_c143⟩) ⟨_, mw_c144⟩) ⟨_, mw_c145⟩) ⟨_, mw_c146⟩) ⟨_, mw_c147⟩) ⟨_, mw_c148⟩) ⟨_, mw_c149⟩) ⟨_, mw_c150⟩) ⟨_, mw_c151⟩) ⟨_, mw_c152⟩) ⟨_, mw_c153⟩) ⟨_, mw_c154⟩) ⟨_, mw_c155⟩) ⟨_, mw_c156⟩) ⟨_, mw_c157⟩) ⟨_, mw_c158⟩) ⟨_, mw_c159⟩) ⟨_, mw_c160⟩) ⟨_, mw_c161⟩) ⟨_, mw_c162⟩) ⟨_, mw_c163⟩) ⟨_, mw_c164⟩) ⟨_, mw_c165⟩) ⟨_, mw_c166⟩) ⟨_, mw_c167⟩) ⟨_, mw_c168⟩) ⟨_, mw_c169⟩) ⟨_, mw_c170⟩) ⟨_, mw_c171⟩) ⟨_, mw_c172⟩) ⟨_, mw_c173⟩) ⟨_, mw_c174⟩) ⟨_, mw_c175⟩) ⟨_, mw_c176⟩) ⟨_, mw_c177⟩) ⟨_, mw_c178⟩) ⟨_, mw_c179⟩) ⟨_, mw_c180⟩) ⟨_, mw_c181⟩) ⟨_, mw_c182⟩) ⟨_, mw_c183⟩) ⟨_, mw_c184⟩) ⟨_, mw_c185⟩) ⟨_, mw_c186⟩) ⟨_, mw_c187⟩
theorem mw_cA_235 : ∀ i, i < 235 → mw_cp i := lt_s (lt_s (lt_s (lt_s (lt_s (lt_s (lt_s (lt_s (lt_s (lt_s (lt_s (lt_s (lt_s (lt_s (lt_s (lt_s (lt_s (lt_s (lt_s (lt_s (lt_s (lt_s (lt_s (lt_s (lt_s (lt_s (lt_s (lt_s (lt_s (lt_s (lt_s (lt_s (lt_s (lt_s (lt_s (lt_s (lt_s (lt_s (lt_s (lt_s (lt_s (lt_s (lt_s (lt_s (lt_s (lt_s (lt_s (mw_cA_188) ⟨_, mw_c188⟩) ⟨_, mw_c189⟩) ⟨_, mw_c190⟩) ⟨_, mw_c191⟩) ⟨_, mw_c192⟩) ⟨_, mw_c193⟩) ⟨_, mw_c194⟩) ⟨_, mw_c195⟩) ⟨_, mw_c196⟩) ⟨_, mw_c197⟩) ⟨_, mw_c198⟩) ⟨_, mw_c199⟩) ⟨_, mw_c200⟩) ⟨_, mw_c201⟩) ⟨_, mw_c202⟩) ⟨_, mw_c203⟩) ⟨_, mw_c204⟩) ⟨_, mw_c205⟩) ⟨_, mw_c206⟩) ⟨_, mw_c207⟩) ⟨_, mw_c208⟩) ⟨_, mw_c209⟩) ⟨_, mw_c210⟩) ⟨_, mw_c211⟩) ⟨_, mw_c212⟩) ⟨_, mw_c213⟩) ⟨_, mw_c214⟩) ⟨_, mw_c215⟩) ⟨_, mw_c216⟩) ⟨_, mw_c217⟩) ⟨_, mw_c218⟩) ⟨_, mw_c219⟩) ⟨_, mw_c220⟩) ⟨_, mw_c221⟩) ⟨_, mw_c222⟩) ⟨_, mw_c223⟩) ⟨_, mw_c224⟩) ⟨_, mw_c225⟩) ⟨_, mw_c226⟩) ⟨_, mw_c227⟩) ⟨_, mw_c228⟩) ⟨_, mw_c229⟩) ⟨_, mw_c230⟩) ⟨_, mw_c231⟩) ⟨_, mw_c232⟩) ⟨_, mw_c233⟩) ⟨_, mw_c234⟩
theorem mw_cA_282 : ∀ i, i < 282 → mw_cp i := lt_s (lt_s (lt_s (lt_s (lt_s (lt_s (lt_s (lt_s (lt_s (lt_s (lt_s (lt_s (lt_s (lt_s (lt_s (lt_s (lt_s (lt_s (lt_s (lt_s (lt_s (lt_s (lt_s (lt_s (lt_s (lt_s (lt_s (lt_s (lt_s (lt_s (lt_s (lt_s (lt_s (lt_s (lt_s (lt_s (lt_s (lt_s (lt_s (lt_s (lt_s (lt_s (lt_s (lt_s (lt_s (lt_s (lt_s (mw_cA_235) ⟨_, mw_c235⟩) ⟨_, mw_c236⟩) ⟨_, mw_c237⟩) ⟨_, mw_c238⟩) ⟨_, mw_c239⟩) ⟨_, mw_c240⟩) ⟨_, mw_c241⟩) ⟨_, mw_c242⟩) ⟨_, mw_c243⟩) ⟨_, mw_c244⟩) ⟨_, mw_c245⟩) ⟨_, mw_c246⟩) ⟨_, mw_c247⟩) ⟨_, mw_c248⟩) ⟨_, mw_c249⟩) ⟨_, mw_c250⟩) ⟨_, mw_c251⟩) ⟨_, mw_c252⟩) ⟨_, mw_c253⟩) ⟨_, mw_c254⟩) ⟨_, mw_c255⟩) ⟨_, mw_c256⟩) ⟨_, mw_c257⟩) ⟨_, mw_c258⟩) ⟨_, mw_c259⟩) ⟨_, mw_c260⟩) ⟨_, mw_c261⟩) ⟨_, mw_c262⟩) ⟨_, mw_c263⟩) ⟨_, mw_c264⟩) ⟨_, mw_c265⟩) ⟨_, mw_c266⟩) ⟨_, mw_c267⟩) ⟨_, mw_c268⟩) ⟨_, mw_c269⟩) ⟨_, mw_c270⟩) ⟨_, mw_c271⟩) ⟨_, mw_c272⟩) ⟨_, mw_c273⟩) ⟨_, mw_c274⟩) ⟨_, mw_c275⟩) ⟨_, mw_c276⟩) ⟨_, mw_c277⟩) ⟨_, mw_c278⟩) ⟨_, mw_c279⟩) ⟨_, mw_c280⟩) ⟨_, mw_c281⟩
theorem mw_codG_0 : ∀ i, 0 ≤ i → i < 282 → goodWord (m_cod i) = true := by
  intro i h1 h2
  have h : (List.range' 0 282).all (fun i => goodWord (m_cod i)) = true := by decide +kernel
  exact List.all_eq_true.mp h i (List.mem_range'_1.mpr ⟨h1, by omega⟩)
theorem mw_codG : ∀ i, i < 282 → goodWord (m_cod i) = true := by
  intro i h
  exact mw_codG_0 i (by omega) (by omega)
theorem mw_insA_0 : ∀ i, 0 ≤ i → i < 80 → mw_ok (m_ism i) (mw_ins.getD i (9, 0)) = true := by
  intro i h1 h2
  have h : (List.range' 0 80).all (fun i => mw_ok (m_ism i) (mw_ins.getD i (9, 0))) = true := by decide +kernel
  exact List.all_eq_true.mp h i (List.mem_range'_1.mpr ⟨h1, by omega⟩)
theorem mw_insA_1 : ∀ i, 80 ≤ i → i < 160 → mw_ok (m_ism i) (mw_ins.getD i (9, 0)) = true := by
  intro i h1 h2
  have h : (List.range' 80 80).all (fun i => mw_ok (m_ism i) (mw_ins.getD i (9, 0))) = true := by decide +kernel
  exact List.all_eq_true.mp h i (List.mem_range'_1.mpr ⟨h1, by omega⟩)
theorem mw_insA_2 : ∀ i, 160 ≤ i → i < 240 → mw_ok (m_ism i) (mw_ins.getD i (9, 0)) = true := by
  intro i h1 h2
  have h : (List.range' 160 80).all (fun i => mw_ok (m_ism i) (mw_ins.getD i (9, 0))) = true := by decide +kernel
  exact List.all_eq_true.mp h i (List.mem_range'_1.mpr ⟨h1, by omega⟩)
theorem mw_insA_3 : ∀ i, 240 ≤ i → i < 282 → mw_ok (m_ism i) (mw_ins.getD i (9, 0)) = true := by
  intro i h1 h2
  have h : (List.range' 240 42).all (fun i => mw_ok (m_ism i) (mw_ins.getD i (9, 0))) = true := by decide +kernel
  exact List.all_eq_true.mp h i (List.mem_range'_1.mpr ⟨h1, by omega⟩)
theorem mw_insA : ∀ i, i < 282 → mw_ok (m_ism i) (mw_ins.getD i (9, 0)) = true := by
  intro i h
  by_cases h0 : i < 80
  · exact mw_insA_0 i (by omega) h0
  by_cases h1 : i < 160
  · exact mw_insA_1 i (by omega) h1
  by_cases h2 : i < 240
  · exact mw_insA_2 i (by omega) h2
  exact mw_insA_3 i (by omega) (by omega)
theorem mw_selA_0 : ∀ i, 0 ≤ i → i < 80 → mw_sl i (mw_sel.getD i (9, 0)) = true := by
  intro i h1 h2
  have h : (List.range' 0 80).all (fun i => mw_sl i (mw_sel.getD i (9, 0))) = true := by decide +kernel
  exact List.all_eq_true.mp h i (List.mem_range'_1.mpr ⟨h1, by omega⟩)
theorem mw_selA_1 : ∀ i, 80 ≤ i → i < 160 → mw_sl i (mw_sel.getD i (9, 0)) = true := by
  intro i h1 h2
  have h : (List.range' 80 80).all (fun i => mw_sl i (mw_sel.getD i (9, 0))) = true := by decide +kernel
  exact List.all_eq_true.mp h i (List.mem_range'_1.mpr ⟨h1, by omega⟩)
theorem mw_selA_2 : ∀ i, 160 ≤ i → i < 240 → mw_sl i (mw_sel.getD i (9, 0)) = true := by
  intro i h1 h2
  have h : (List.range' 160 80).all (fun i => mw_sl i (mw_sel.getD i (9, 0))) = true := by decide +kernel
  exact List.all_eq_true.mp h i (List.mem_range'_1.mpr ⟨h1, by omega⟩)
theorem mw_selA_3 : ∀ i, 240 ≤ i → i < 282 → mw_sl i (mw_sel.getD i (9, 0)) = true := by
  intro i h1 h2
  have h : (List.range' 240 42).all (fun i => mw_sl i (mw_sel.getD i (9, 0))) = true := by decide +kernel
  exact List.all_eq_true.mp h i (List.mem_range'_1.mpr ⟨h1, by omega⟩)
theorem mw_selA : ∀ i, i < 282 → mw_sl i (mw_sel.getD i (9, 0)) = true := by
  intro i h
  by_cases h0 : i < 80
  · exact mw_selA_0 i (by omega) h0
  by_cases h1 : i < 160
  · exact mw_selA_1 i (by omega) h1
  by_cases h2 : i < 240
  · exact mw_selA_2 i (by omega) h2
  exact mw_selA_3 i (by omega) (by omega)
def mw_fl1 (r : Nat × Nat × Nat × Nat) (p : Nat × Nat) : Bool := mw_ok (.fieldLink (m_cn r.1) r.2.1 (m_cl3 r.2.2.1).1 ((m_cl3 r.2.2.1).2.1 r.2.2.2).2.1 ((m_cl3 r.2.2.1).2.1 r.2.2.2).2.2.1) p
def mw_pz : Nat → MethodName := fun m => if m = 1000 then yX6_requireSuch else if m = 1001 then yX6_requireValid else if m = 1002 then yX6_requireNow else if m = 1003 then Lib.Math.max.name else if m = 1004 then Lib.Math.min.name else if m = 1007 then objectInit else m_nam m
def mw_ml1 (r : Nat × Nat × Nat × Nat) (p : Nat × Nat) : Bool := (p.1 == 9 && r.1 == 6 && (r.2.1 == 25 && r.2.2.1 == mX5_init || r.2.1 == 48 && r.2.2.1 == mX4_init) || mw_ok (.methodLink (m_cn r.1) r.2.1 (mw_pz r.2.2.1)) p) && decide ((parseMethodDescriptor (mw_pz r.2.2.1).desc).map (fun d => d.parameters.length) = some r.2.2.2)
theorem mw_fldA_0 : ∀ i, 0 ≤ i → i < 70 → mw_fl1 (mm_fldL.getD i (0, 0, 0, 0)) (mw_fld.getD i (9, 0)) = true := by
  intro i h1 h2
  have h : (List.range' 0 70).all (fun i => mw_fl1 (mm_fldL.getD i (0, 0, 0, 0)) (mw_fld.getD i (9, 0))) = true := by decide +kernel
  exact List.all_eq_true.mp h i (List.mem_range'_1.mpr ⟨h1, by omega⟩)
theorem mw_fldA_1 : ∀ i, 70 ≤ i → i < 90 → mw_fl1 (mm_fldL.getD i (0, 0, 0, 0)) (mw_fld.getD i (9, 0)) = true := by
  intro i h1 h2
  have h : (List.range' 70 20).all (fun i => mw_fl1 (mm_fldL.getD i (0, 0, 0, 0)) (mw_fld.getD i (9, 0))) = true := by decide +kernel
  exact List.all_eq_true.mp h i (List.mem_range'_1.mpr ⟨h1, by omega⟩)
theorem mw_fldA : ∀ i, i < 90 → mw_fl1 (mm_fldL.getD i (0, 0, 0, 0)) (mw_fld.getD i (9, 0)) = true := by
  intro i h
  by_cases h0 : i < 70
  · exact mw_fldA_0 i (by omega) h0
  exact mw_fldA_1 i (by omega) (by omega)
theorem mw_metA_0 : ∀ i, 0 ≤ i → i < 60 → mw_ml1 (mm_metL.getD i (0, 0, 0, 0)) (mw_met.getD i (9, 0)) = true := by
  intro i h1 h2
  have h : (List.range' 0 60).all (fun i => mw_ml1 (mm_metL.getD i (0, 0, 0, 0)) (mw_met.getD i (9, 0))) = true := by decide +kernel
  exact List.all_eq_true.mp h i (List.mem_range'_1.mpr ⟨h1, by omega⟩)
theorem mw_metA_1 : ∀ i, 60 ≤ i → i < 120 → mw_ml1 (mm_metL.getD i (0, 0, 0, 0)) (mw_met.getD i (9, 0)) = true := by
  intro i h1 h2
  have h : (List.range' 60 60).all (fun i => mw_ml1 (mm_metL.getD i (0, 0, 0, 0)) (mw_met.getD i (9, 0))) = true := by decide +kernel
  exact List.all_eq_true.mp h i (List.mem_range'_1.mpr ⟨h1, by omega⟩)
theorem mw_metA_2 : ∀ i, 120 ≤ i → i < 180 → mw_ml1 (mm_metL.getD i (0, 0, 0, 0)) (mw_met.getD i (9, 0)) = true := by
  intro i h1 h2
  have h : (List.range' 120 60).all (fun i => mw_ml1 (mm_metL.getD i (0, 0, 0, 0)) (mw_met.getD i (9, 0))) = true := by decide +kernel
  exact List.all_eq_true.mp h i (List.mem_range'_1.mpr ⟨h1, by omega⟩)
theorem mw_metA_3 : ∀ i, 180 ≤ i → i < 222 → mw_ml1 (mm_metL.getD i (0, 0, 0, 0)) (mw_met.getD i (9, 0)) = true := by
  intro i h1 h2
  have h : (List.range' 180 42).all (fun i => mw_ml1 (mm_metL.getD i (0, 0, 0, 0)) (mw_met.getD i (9, 0))) = true := by decide +kernel
  exact List.all_eq_true.mp h i (List.mem_range'_1.mpr ⟨h1, by omega⟩)
theorem mw_metA : ∀ i, i < 222 → mw_ml1 (mm_metL.getD i (0, 0, 0, 0)) (mw_met.getD i (9, 0)) = true := by
  intro i h
  by_cases h0 : i < 60
  · exact mw_metA_0 i (by omega) h0
  by_cases h1 : i < 120
  · exact mw_metA_1 i (by omega) h1
  by_cases h2 : i < 180
  · exact mw_metA_2 i (by omega) h2
  exact mw_metA_3 i (by omega) (by omega)
theorem mw_clsA : ((mm_clsL.zip mw_cls).all (fun r => mw_ok (.classLink (m_cn r.1.1) r.1.2.1 (m_cn r.1.2.2)) r.2)) = true := by decide +kernel
theorem mw_istA : ∀ c, c < 7 → mw_ok (.instantiable (m_cl3 c).1 (m_cl3 c).2.2) (mw_ist.getD c (9, 0)) = true := by decide +kernel
theorem mw_iniA : ∀ c, c < 9 → mw_ok (.initialized (m_cn c)) (mw_ini.getD c (9, 0)) = true := by decide +kernel
theorem mw_layA : ∀ c, c < 7 → (List.range (m_cl3 c).2.2).all (fun k => mw_ok (u_lay (m_cl3 c).1 (m_cl3 c).2.1 k) ((mw_lay.getD c []).getD k (9, 0))) = true := by decide +kernel
def mw_cw (r : Nat × Nat × Nat × Int) : Cond := if r.2.2.1 = 0 then .constant (m_cn r.1) r.2.1 (Int32.ofInt r.2.2.2) else .constantLong (m_cn r.1) r.2.1 (Int64.ofInt r.2.2.2)
theorem mw_conA : ((mm_conL.zip mw_con).all (fun r => r.1.2.2.1 == 3 || mw_ok (mw_cw r.1) r.2)) = true := by decide +kernel
