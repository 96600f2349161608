/-! Where the words of the program stand in the tables (by program: wip/whole/mkwords.py), and that they do. -/
def mw_cod_0 : List (Nat × Nat) := [(1, 217), (3, 149), (3, 120), (3, 131), (3, 135), (3, 153), (3, 146), (5, 105), (5, 109), (5, 120), (5, 124), (1, 32), (1, 48), (2, 83), (2, 71), (4, 79), (4, 140), (4, 198), (5, 43), (3, 63), (5, 20), (4, 83), (4, 75), (4, 163), (4, 182), (4, 128), (4, 187), (4, 144), (4, 148), (3, 47), (3, 39), (3, 43), (3, 51), (2, 126), (1, 183), (3, 163), (3, 168), (3, 202), (3, 206), (3, 198), (3, 172), (3, 184), (3, 188), (1, 38), (2, 79), (2, 92), (1, 52), (2, 87), (2, 75), (3, 192), (4, 152), (2, 9), (5, 161), (2, 158), (2, 166), (2, 170), (2, 174), (2, 178), (2, 182), (2, 198), (2, 191), (2, 187), (3, 17), (3, 12), (1, 111), (2, 67), (3, 55), (3, 140), (3, 124), (2, 102), (3, 176), (2, 110), (2, 96), (2, 106), (2, 114), (2, 147), (5, 8), (2, 139), (2, 135), (3, 83)]
def mw_cod_1 : List (Nat × Nat) := [(3, 79), (3, 75), (3, 116), (5, 136), (2, 118), (2, 122), (2, 131), (2, 143), (3, 67), (3, 112), (3, 71), (3, 90), (3, 94), (3, 108), (1, 24), (3, 218), (4, 71), (4, 136), (4, 159), (4, 171), (4, 178), (4, 194), (4, 206), (4, 213), (4, 220), (4, 228), (4, 235), (5, 4), (2, 63), (5, 16), (5, 31), (5, 39), (5, 51), (5, 59), (5, 66), (5, 73), (5, 80), (5, 87), (5, 94), (5, 101), (5, 116), (5, 132), (5, 143), (5, 150), (5, 157), (2, 154), (2, 162), (5, 168), (5, 182), (3, 22), (4, 89), (3, 221), (4, 108), (4, 86), (5, 23), (3, 101), (3, 104), (4, 60), (4, 52), (4, 56), (5, 175), (3, 31), (3, 210), (3, 98), (3, 157), (3, 34), (3, 27), (3, 59), (5, 187), (5, 192), (6, 39), (6, 47), (6, 54), (7, 4), (6, 62), (6, 43), (6, 58), (6, 74), (6, 82), (6, 98)]
def mw_cod_2 : List (Nat × Nat) := [(6, 86), (6, 106), (6, 110), (6, 51), (6, 78), (6, 70), (6, 90), (6, 66), (6, 114), (6, 102), (6, 94), (6, 122), (6, 118), (6, 126), (6, 134), (6, 138), (6, 130), (6, 142), (6, 150), (6, 146), (6, 163), (6, 171), (6, 167), (6, 175), (6, 158), (6, 154), (6, 183), (6, 179), (6, 187), (6, 191), (6, 217), (6, 214), (6, 199), (6, 207), (6, 211), (6, 203), (6, 195), (6, 225), (6, 221), (6, 237), (7, 1), (7, 12), (6, 233), (6, 229), (7, 8), (7, 28), (7, 34), (7, 24), (7, 70), (7, 66), (7, 46), (7, 50), (7, 42), (7, 38), (7, 20), (7, 16), (7, 62), (7, 58), (7, 54), (7, 78), (7, 74), (7, 86), (7, 82), (7, 94), (7, 98), (7, 90), (7, 110), (7, 114), (7, 106), (7, 102), (7, 126), (7, 122), (7, 118), (7, 130), (7, 134), (7, 138), (7, 142), (7, 146), (7, 150), (7, 162)]
def mw_cod_3 : List (Nat × Nat) := [(7, 170), (7, 166), (7, 174), (7, 178), (7, 158), (7, 182), (7, 154), (7, 186), (7, 195), (7, 200), (7, 190), (3, 213), (4, 65), (4, 132), (4, 155), (4, 167), (4, 174), (4, 190), (4, 202), (4, 209), (4, 216), (4, 224), (4, 231), (5, 0), (5, 12), (5, 27), (5, 35), (5, 47), (5, 55), (5, 62), (5, 69), (5, 76), (5, 83), (5, 90), (5, 97), (5, 112), (5, 128), (5, 139), (5, 146), (5, 153), (5, 164), (5, 178)]
def mw_cod : List (Nat × Nat) := mw_cod_0 ++ (mw_cod_1 ++ (mw_cod_2 ++ (mw_cod_3)))
def mw_ins_0 : List (Nat × Nat) := [(1, 216), (3, 148), (3, 118), (3, 130), (3, 134), (3, 152), (3, 145), (5, 103), (5, 108), (5, 118), (5, 123), (1, 31), (1, 46), (2, 81), (2, 69), (4, 77), (4, 138), (4, 196), (5, 41), (3, 61), (5, 18), (4, 81), (4, 73), (4, 161), (4, 180), (4, 126), (4, 185), (4, 142), (4, 146), (3, 45), (3, 37), (3, 41), (3, 49), (2, 124), (1, 182), (3, 161), (3, 167), (3, 201), (3, 205), (3, 197), (3, 171), (3, 183), (3, 187), (1, 37), (2, 77), (2, 90), (1, 50), (2, 85), (2, 73), (3, 190), (4, 150), (2, 8), (5, 159), (2, 156), (2, 164), (2, 168), (2, 172), (2, 177), (2, 181), (2, 197), (2, 190), (2, 185), (3, 16), (3, 11), (1, 110), (2, 65), (3, 53), (3, 138), (3, 122), (2, 100), (3, 174), (2, 108), (2, 95), (2, 105), (2, 113), (2, 145), (5, 6), (2, 137), (2, 133), (3, 81)]
def mw_ins_1 : List (Nat × Nat) := [(3, 77), (3, 73), (3, 114), (5, 134), (2, 117), (2, 121), (2, 130), (2, 142), (3, 65), (3, 110), (3, 70), (3, 89), (3, 93), (3, 106), (1, 23), (3, 216), (4, 69), (4, 134), (4, 157), (4, 169), (4, 176), (4, 192), (4, 204), (4, 211), (4, 218), (4, 226), (4, 233), (5, 2), (2, 61), (5, 14), (5, 29), (5, 37), (5, 49), (5, 57), (5, 64), (5, 71), (5, 78), (5, 85), (5, 92), (5, 99), (5, 114), (5, 130), (5, 141), (5, 148), (5, 155), (2, 152), (2, 160), (5, 166), (5, 180), (3, 20), (4, 88), (3, 220), (4, 107), (4, 85), (5, 22), (3, 100), (3, 103), (4, 59), (4, 51), (4, 55), (5, 174), (3, 30), (3, 209), (3, 97), (3, 156), (3, 33), (3, 26), (3, 58), (5, 186), (5, 191), (6, 37), (6, 46), (6, 53), (7, 3), (6, 61), (6, 41), (6, 57), (6, 73), (6, 81), (6, 97)]
def mw_ins_2 : List (Nat × Nat) := [(6, 85), (6, 105), (6, 109), (6, 49), (6, 77), (6, 69), (6, 89), (6, 64), (6, 113), (6, 101), (6, 92), (6, 121), (6, 116), (6, 124), (6, 133), (6, 137), (6, 128), (6, 140), (6, 149), (6, 144), (6, 161), (6, 170), (6, 165), (6, 173), (6, 157), (6, 153), (6, 182), (6, 177), (6, 185), (6, 189), (6, 216), (6, 213), (6, 198), (6, 206), (6, 210), (6, 202), (6, 193), (6, 224), (6, 219), (6, 236), (7, 0), (7, 11), (6, 232), (6, 227), (7, 6), (7, 27), (7, 33), (7, 23), (7, 69), (7, 65), (7, 45), (7, 49), (7, 41), (7, 37), (7, 19), (7, 14), (7, 61), (7, 57), (7, 52), (7, 77), (7, 72), (7, 85), (7, 80), (7, 93), (7, 97), (7, 88), (7, 109), (7, 113), (7, 105), (7, 100), (7, 125), (7, 121), (7, 116), (7, 128), (7, 132), (7, 136), (7, 140), (7, 144), (7, 148), (7, 161)]
def mw_ins_3 : List (Nat × Nat) := [(7, 169), (7, 165), (7, 173), (7, 177), (7, 157), (7, 181), (7, 152), (7, 184), (7, 194), (7, 199), (7, 188), (3, 212), (4, 64), (4, 131), (4, 154), (4, 166), (4, 173), (4, 189), (4, 201), (4, 208), (4, 215), (4, 223), (4, 230), (4, 239), (5, 11), (5, 26), (5, 34), (5, 46), (5, 54), (5, 61), (5, 68), (5, 75), (5, 82), (5, 89), (5, 96), (5, 111), (5, 127), (5, 138), (5, 145), (5, 152), (5, 163), (5, 177)]
def mw_ins : List (Nat × Nat) := mw_ins_0 ++ (mw_ins_1 ++ (mw_ins_2 ++ (mw_ins_3)))
def mw_sel_0 : List (Nat × Nat) := [(9, 0), (9, 0), (3, 119), (0, 20), (0, 21), (0, 23), (0, 22), (5, 104), (0, 36), (5, 119), (0, 37), (9, 0), (1, 47), (2, 82), (2, 70), (4, 78), (4, 139), (4, 197), (5, 42), (3, 62), (5, 19), (4, 82), (4, 74), (4, 162), (4, 181), (4, 127), (4, 186), (4, 143), (4, 147), (3, 46), (3, 38), (3, 42), (3, 50), (2, 125), (9, 0), (3, 162), (0, 25), (0, 29), (0, 30), (0, 28), (0, 26), (0, 27), (9, 0), (9, 0), (2, 78), (2, 91), (1, 51), (2, 86), (2, 74), (3, 191), (4, 151), (9, 0), (5, 160), (2, 157), (2, 165), (2, 169), (2, 173), (0, 7), (0, 8), (0, 10), (0, 9), (2, 186), (0, 12), (0, 11), (9, 0), (2, 66), (3, 54), (3, 139), (3, 123), (2, 101), (3, 175), (2, 109), (0, 0), (0, 1), (0, 2), (2, 146), (5, 7), (2, 138), (2, 134), (3, 82)]
def mw_sel_1 : List (Nat × Nat) := [(3, 78), (3, 74), (3, 115), (5, 135), (0, 3), (0, 4), (0, 5), (0, 6), (3, 66), (3, 111), (0, 16), (0, 17), (0, 18), (3, 107), (9, 0), (3, 217), (4, 70), (4, 135), (4, 158), (4, 170), (4, 177), (4, 193), (4, 205), (4, 212), (4, 219), (4, 227), (4, 234), (5, 3), (2, 62), (5, 15), (5, 30), (5, 38), (5, 50), (5, 58), (5, 65), (5, 72), (5, 79), (5, 86), (5, 93), (5, 100), (5, 115), (5, 131), (5, 142), (5, 149), (5, 156), (2, 153), (2, 161), (5, 167), (5, 181), (3, 21), (9, 0), (9, 0), (9, 0), (9, 0), (9, 0), (9, 0), (9, 0), (0, 35), (0, 33), (0, 34), (0, 38), (0, 14), (0, 31), (0, 19), (0, 24), (9, 0), (0, 13), (0, 15), (9, 0), (0, 39), (6, 38), (0, 40), (9, 0), (9, 0), (0, 42), (6, 42), (0, 41), (0, 44), (0, 46), (0, 49)]
def mw_sel_2 : List (Nat × Nat) := [(0, 47), (0, 51), (0, 52), (6, 50), (0, 45), (0, 43), (0, 48), (6, 65), (0, 53), (0, 50), (6, 93), (0, 54), (6, 117), (6, 125), (0, 55), (0, 56), (6, 129), (6, 141), (0, 57), (6, 145), (6, 162), (0, 60), (6, 166), (6, 174), (0, 59), (0, 58), (0, 61), (6, 178), (6, 186), (6, 190), (9, 0), (9, 0), (0, 62), (0, 64), (0, 65), (0, 63), (6, 194), (0, 66), (6, 220), (0, 68), (0, 69), (0, 70), (0, 67), (6, 228), (7, 7), (0, 73), (0, 74), (0, 72), (0, 82), (0, 81), (0, 77), (0, 78), (0, 76), (0, 75), (0, 71), (7, 15), (0, 80), (0, 79), (7, 53), (0, 83), (7, 73), (0, 84), (7, 81), (0, 85), (0, 86), (7, 89), (0, 88), (0, 89), (0, 87), (7, 101), (0, 91), (0, 90), (7, 117), (7, 129), (7, 133), (7, 137), (7, 141), (7, 145), (7, 149), (0, 93)]
def mw_sel_3 : List (Nat × Nat) := [(0, 95), (0, 94), (0, 96), (0, 97), (0, 92), (0, 98), (7, 153), (7, 185), (0, 99), (0, 100), (7, 189), (9, 0), (9, 0), (9, 0), (9, 0), (9, 0), (9, 0), (9, 0), (9, 0), (9, 0), (9, 0), (9, 0), (9, 0), (9, 0), (9, 0), (9, 0), (9, 0), (9, 0), (9, 0), (9, 0), (9, 0), (9, 0), (9, 0), (9, 0), (9, 0), (9, 0), (9, 0), (9, 0), (9, 0), (9, 0), (9, 0), (9, 0)]
def mw_sel : List (Nat × Nat) := mw_sel_0 ++ (mw_sel_1 ++ (mw_sel_2 ++ (mw_sel_3)))
def mm_staL : List Nat := [0, 1, 0, 0, 0, 0, 0, 0, 0, 0, 0, 0, 0, 0, 0, 0, 0, 0, 0, 0, 0, 0, 0, 0, 0, 0, 0, 0, 0, 0, 0, 0, 0, 0, 0, 0, 0, 0, 0, 0, 0, 0, 1, 0, 0, 0, 0, 0, 0, 0, 0, 0, 0, 0, 0, 0, 0, 0, 0, 0, 0, 0, 0, 0, 0, 0, 0, 0, 0, 0, 0, 0, 0, 0, 0, 0, 0, 0, 0, 0, 0, 0, 0, 0, 0, 0, 0, 0, 0, 0, 0, 0, 0, 0, 0, 0, 0, 0, 0, 0, 0, 0, 0, 0, 0, 0, 0, 0, 0, 0, 0, 0, 0, 0, 0, 0, 0, 0, 0, 0, 0, 0, 0, 0, 0, 0, 0, 0, 0, 0, 1, 1, 1, 1, 1, 1, 1, 0, 0, 0, 0, 0, 0, 0, 0, 1, 0, 0, 0, 0, 0, 0, 1, 1, 0, 0, 0, 0, 0, 0, 0, 0, 0, 0, 0, 0, 0, 0, 0, 0, 0, 0, 0, 0, 0, 0, 0, 0, 0, 0, 0, 0, 0, 0, 0, 0, 0, 0, 0, 0, 1, 1, 0, 0, 0, 0, 0, 0, 0, 0, 0, 0, 0, 0, 0, 0, 0, 0, 0, 0, 0, 0, 0, 0, 0, 0, 0, 0, 0, 0, 0, 0, 0, 0, 0, 0, 0, 0, 0, 0, 0, 0, 0, 0, 0, 0, 0, 0, 0, 0, 0, 0, 0, 0, 0, 0, 0, 0, 0, 0, 0, 1, 1, 1, 1, 1, 1, 1, 1, 1, 1, 1, 1, 1, 1, 1, 1, 1, 1, 1, 1, 1, 1, 1, 1, 1, 1, 1, 1, 1, 1, 1]
def mw_fld_0 : List (Nat × Nat) := [(1, 224), (1, 226), (1, 228), (1, 229), (1, 221), (1, 222), (1, 120), (1, 223), (1, 127), (1, 130), (1, 132), (1, 134), (1, 62), (1, 65), (1, 68), (1, 71), (1, 73), (1, 76), (1, 79), (1, 81), (1, 53), (1, 56), (1, 59), (1, 192), (1, 194), (1, 196), (1, 187), (1, 188), (1, 190), (1, 189), (1, 40), (2, 15), (2, 20), (2, 13), (2, 16), (2, 19), (2, 17), (1, 117), (1, 123), (1, 124), (1, 125), (1, 126), (1, 129), (1, 131), (1, 133), (1, 119), (1, 118), (1, 63), (1, 66), (1, 121), (1, 57), (1, 55), (1, 74), (1, 69), (1, 72), (1, 128), (1, 60), (1, 78), (1, 80), (1, 82), (1, 135), (1, 136), (1, 138), (1, 141), (1, 143), (2, 35), (2, 36), (2, 37), (2, 39), (2, 40), (2, 41), (2, 42), (1, 54), (1, 64), (1, 67), (1, 77), (1, 122), (1, 70), (1, 191), (1, 142)]
def mw_fld_1 : List (Nat × Nat) := [(1, 140), (1, 75), (2, 14), (2, 38), (2, 21), (2, 18), (1, 58), (1, 61), (1, 193), (1, 197), (1, 195), (1, 137), (1, 139), (1, 225), (1, 227), (5, 193), (5, 194), (5, 195), (5, 198), (5, 200), (5, 201), (5, 203), (5, 204), (5, 209), (5, 210), (5, 211), (5, 212), (5, 213), (5, 197), (5, 196), (5, 202), (5, 205), (5, 207), (5, 208), (5, 206), (5, 214), (5, 215), (5, 199), (5, 216), (5, 217), (5, 218), (5, 219)]
def mw_fld : List (Nat × Nat) := mw_fld_0 ++ (mw_fld_1)
def mw_met_0 : List (Nat × Nat) := [(3, 215), (4, 68), (4, 133), (4, 156), (4, 168), (4, 175), (4, 191), (4, 203), (4, 210), (4, 217), (4, 225), (4, 232), (5, 1), (5, 13), (5, 28), (5, 36), (5, 48), (5, 56), (5, 63), (5, 70), (5, 77), (5, 84), (5, 91), (5, 98), (5, 113), (5, 129), (5, 140), (5, 147), (5, 154), (5, 165), (5, 179), (1, 22), (5, 185), (3, 211), (6, 48), (6, 36), (4, 63), (6, 63), (4, 130), (6, 91), (4, 153), (6, 115), (4, 165), (6, 123), (4, 172), (6, 127), (4, 188), (6, 139), (4, 200), (6, 143), (4, 207), (6, 160), (4, 214), (6, 164), (4, 222), (6, 172), (4, 229), (6, 176), (4, 238), (6, 184), (2, 60), (6, 188), (5, 10), (6, 192), (5, 25), (6, 218), (5, 33), (6, 226), (5, 45), (7, 5), (5, 53), (7, 13), (5, 60), (7, 51), (5, 67), (7, 71), (5, 74), (7, 79), (5, 81), (7, 87)]
def mw_met_1 : List (Nat × Nat) := [(5, 88), (7, 99), (5, 95), (7, 115), (5, 110), (7, 127), (5, 126), (7, 131), (5, 137), (7, 135), (5, 144), (7, 139), (5, 151), (7, 143), (2, 151), (7, 147), (2, 159), (7, 151), (5, 162), (7, 183), (5, 176), (6, 40), (3, 19), (7, 187), (1, 218), (1, 220), (3, 121), (3, 126), (3, 127), (3, 128), (3, 143), (3, 132), (3, 137), (3, 141), (3, 142), (3, 136), (3, 147), (3, 150), (5, 106), (5, 121), (5, 125), (1, 33), (1, 36), (1, 45), (1, 49), (2, 84), (2, 72), (2, 127), (4, 76), (4, 80), (4, 183), (4, 129), (4, 145), (4, 149), (3, 40), (1, 184), (1, 186), (3, 164), (3, 165), (3, 194), (3, 195), (3, 169), (3, 181), (3, 173), (3, 177), (3, 178), (3, 199), (3, 203), (3, 179), (3, 180), (3, 185), (3, 186), (3, 189), (3, 193), (1, 39), (2, 76), (2, 10), (2, 12), (3, 13), (2, 167)]
def mw_met_2 : List (Nat × Nat) := [(2, 171), (2, 184), (2, 175), (2, 179), (2, 183), (2, 195), (2, 188), (2, 201), (2, 211), (3, 9), (3, 14), (1, 112), (1, 114), (1, 116), (2, 68), (2, 80), (2, 88), (2, 89), (2, 93), (2, 111), (2, 115), (3, 125), (2, 98), (2, 99), (2, 103), (2, 107), (2, 148), (5, 9), (3, 84), (3, 80), (3, 76), (2, 119), (2, 128), (2, 123), (2, 132), (2, 136), (2, 140), (3, 68), (3, 72), (3, 87), (3, 113), (3, 91), (1, 25), (1, 30), (9, 0), (1, 181), (1, 215), (9, 0), (3, 219), (4, 49), (4, 62), (4, 72), (4, 84), (4, 125), (4, 137), (4, 87), (4, 141), (4, 160), (3, 159), (4, 164), (4, 179), (4, 184), (4, 195), (4, 199), (2, 64), (3, 28), (3, 44), (4, 221), (3, 36), (3, 48), (4, 236), (5, 5), (2, 144), (5, 17), (5, 21), (4, 106), (5, 24), (3, 99), (5, 32), (5, 40)]
def mw_met_3 : List (Nat × Nat) := [(5, 44), (5, 52), (3, 160), (3, 207), (3, 52), (3, 64), (3, 95), (3, 105), (3, 109), (3, 117), (3, 154), (5, 102), (5, 117), (5, 133), (3, 60), (4, 61), (5, 158), (2, 155), (2, 163), (5, 169), (5, 170), (5, 171), (5, 172), (4, 57), (3, 24), (3, 56), (3, 32), (3, 102), (4, 53), (3, 158), (5, 188), (5, 189), (6, 44), (6, 55), (6, 52), (6, 79), (6, 59), (6, 83), (6, 71), (6, 75), (6, 67), (6, 87), (6, 103), (6, 107), (6, 111), (6, 95), (6, 99), (6, 119), (6, 131), (6, 135), (6, 151), (6, 147), (6, 168), (6, 155), (6, 180), (6, 215), (6, 204), (6, 208), (6, 196), (6, 200), (6, 212), (6, 222), (7, 2), (6, 230), (6, 234), (6, 238), (7, 9), (7, 25), (7, 31), (7, 21), (7, 67), (7, 43), (7, 47), (7, 39), (7, 35), (7, 17), (7, 59), (7, 63), (7, 55), (7, 75)]
def mw_met_4 : List (Nat × Nat) := [(7, 83), (7, 91), (7, 95), (7, 107), (7, 111), (7, 103), (7, 123), (7, 119), (7, 159), (7, 167), (7, 171), (7, 163), (7, 175), (7, 179), (7, 155), (7, 192), (7, 197)]
def mw_met : List (Nat × Nat) := mw_met_0 ++ (mw_met_1 ++ (mw_met_2 ++ (mw_met_3 ++ (mw_met_4))))
def mw_cls_0 : List (Nat × Nat) := [(1, 20), (5, 183), (1, 219), (1, 34), (1, 185), (2, 11), (1, 113), (1, 115), (1, 28), (1, 107), (1, 179), (1, 213), (2, 5)]
def mw_cls : List (Nat × Nat) := mw_cls_0
def mw_ist_0 : List (Nat × Nat) := [(1, 214), (1, 29), (1, 180), (1, 35), (2, 6), (1, 108), (1, 21), (5, 184)]
def mw_ist : List (Nat × Nat) := mw_ist_0
def mw_ini_0 : List (Nat × Nat) := [(1, 6), (1, 2), (1, 5), (1, 3), (1, 7), (1, 4), (1, 1), (1, 8), (1, 0)]
def mw_ini : List (Nat × Nat) := mw_ini_0
def mw_lay0_0 : List (Nat × Nat) := [(1, 230), (1, 232), (1, 234), (1, 236), (1, 238), (2, 0), (2, 2)]
def mw_lay0 : List (Nat × Nat) := mw_lay0_0
def mw_lay1_0 : List (Nat × Nat) := [(1, 83), (1, 85), (1, 87), (1, 89), (1, 91), (1, 93), (1, 95), (1, 97), (1, 99), (1, 101), (1, 103)]
def mw_lay1 : List (Nat × Nat) := mw_lay1_0
def mw_lay2_0 : List (Nat × Nat) := [(1, 198), (1, 200), (1, 202), (1, 204), (1, 206), (1, 208), (1, 210)]
def mw_lay2 : List (Nat × Nat) := mw_lay2_0
def mw_lay3_0 : List (Nat × Nat) := [(1, 41)]
def mw_lay3 : List (Nat × Nat) := mw_lay3_0
def mw_lay4_0 : List (Nat × Nat) := [(2, 22), (2, 24), (2, 26), (2, 28), (2, 30), (2, 32)]
def mw_lay4 : List (Nat × Nat) := mw_lay4_0
def mw_lay5_0 : List (Nat × Nat) := [(1, 144), (1, 146), (1, 148), (1, 150), (1, 152), (1, 154), (1, 156), (1, 158), (1, 160), (1, 162), (1, 164), (1, 166), (1, 168), (1, 170), (1, 172), (1, 174), (1, 176)]
def mw_lay5 : List (Nat × Nat) := mw_lay5_0
def mw_lay6_0 : List (Nat × Nat) := [(2, 43), (2, 45), (2, 47), (2, 49), (2, 51), (2, 53), (2, 55), (2, 57)]
def mw_lay6 : List (Nat × Nat) := mw_lay6_0
def mw_lay7_0 : List (Nat × Nat) := [(5, 220), (5, 222), (5, 224), (5, 226), (5, 228), (5, 230), (5, 232), (5, 234), (5, 236), (5, 238), (6, 0), (6, 2), (6, 4), (6, 6), (6, 8), (6, 10), (6, 12), (6, 14), (6, 16), (6, 18), (6, 20), (6, 22), (6, 24), (6, 26), (6, 28), (6, 30), (6, 32)]
def mw_lay7 : List (Nat × Nat) := mw_lay7_0
def mw_lay : List (List (Nat × Nat)) := [mw_lay0, mw_lay1, mw_lay2, mw_lay3, mw_lay4, mw_lay5, mw_lay6, mw_lay7]
def mw_con_0 : List (Nat × Nat) := [(9, 0), (9, 0), (9, 0), (9, 0), (9, 0), (2, 97), (4, 237), (3, 23), (3, 35), (6, 159), (7, 29), (7, 30), (7, 196), (7, 191)]
def mw_con : List (Nat × Nat) := mw_con_0
def mw_q (k : Nat) : List Cond := if k = 1 then tables_1_1 else if k = 2 then tables_1_2 else if k = 3 then tables_1_3 else if k = 4 then tables_1_4 else if k = 5 then tables_1_5 else if k = 6 then tables_1_6 else if k = 7 then tables_1_7 else []
def mw_at (p : Nat × Nat) : Option Cond := (mw_q p.1)[p.2]?
def mw_ok (w : Cond) (p : Nat × Nat) : Bool := decide (mw_at p = some w) && goodWord w
theorem mw_in {w : Cond} {p : Nat × Nat} (h : mw_ok w p = true) : w ∈ lw_tbl ∧ goodWord w = true := by
  simp only [mw_ok, Bool.and_eq_true, decide_eq_true_eq] at h
  refine ⟨?_, h.2⟩
  have h1 : w ∈ mw_q p.1 := List.mem_of_getElem? h.1
  have h2 : w ∈ tables_1 := by
    unfold tables_1
    simp only [List.mem_append]
    unfold mw_q at h1
    split at h1
    · exact Or.inl h1
    · split at h1
      · exact Or.inr (Or.inl h1)
      · split at h1
        · exact Or.inr (Or.inr (Or.inl h1))
        · split at h1
          · exact Or.inr (Or.inr (Or.inr (Or.inl h1)))
          · split at h1
            · exact Or.inr (Or.inr (Or.inr (Or.inr (Or.inl h1))))
            · split at h1
              · exact Or.inr (Or.inr (Or.inr (Or.inr (Or.inr (Or.inl h1)))))
              · split at h1
                · exact Or.inr (Or.inr (Or.inr (Or.inr (Or.inr (Or.inr h1)))))
                · cases h1
  exact List.mem_append_right _ h2
def m_cn (c : Nat) : String := ([RX0, RX1, RX2, RX3, RX4, RX5, RX6, RX7, RL] : List String).getD c RL
def m_cl3 (c : Nat) : vw_C := vwCl.getD c (RX0, TX0, 7)
def m_sta (m : Nat) : Bool := mm_staL.getD m 1 == 1
def m_rty (m : Nat) : Option FieldType := match m_ret m with
  | 0 => none
  | 1 => some .int
  | 2 => some .boolean
  | 3 => some .long
  | 4 => some (.object "NetworkCenters$Network")
  | _ => some (.object "java/lang/String")
def m_cod (m : Nat) : Cond := match m_han m with
  | [] => .code (m_nam m) (m_byt m) (m_max m) (m_rty m)
  | hh => .codeWith (m_nam m) (m_byt m) (m_max m) (m_rty m) hh
def m_ism (m : Nat) : Cond := if m_sta m = true then .static (m_nam m) else .instanceMethod (m_nam m)
def mw_sl (m : Nat) (p : Nat × Nat) : Bool := if p.1 = 0 then (lw_privs[p.2]?.map (fun q => q.1)) == some (m_nam m) && goodWord (.selects (m_nam m).cls (m_nam m) (m_nam m)) else if p.1 = 9 then m_sta m || (m_nam m).name == "<init>" else mw_ok (.selects (m_nam m).cls (m_nam m) (m_nam m)) p
def mw_ix (n : Nat) : List Nat := (List.range n)

theorem mw_codA_0 : ∀ i, 0 ≤ i → i < 40 → mw_ok (m_cod i) (mw_cod.getD i (9, 0)) = true := by
  intro i h1 h2
  have h : (List.range' 0 40).all (fun i => mw_ok (m_cod i) (mw_cod.getD i (9, 0))) = true := by decide +kernel
  exact List.all_eq_true.mp h i (List.mem_range'_1.mpr ⟨h1, by omega⟩)
theorem mw_codA_1 : ∀ i, 40 ≤ i → i < 80 → mw_ok (m_cod i) (mw_cod.getD i (9, 0)) = true := by
  intro i h1 h2
  have h : (List.range' 40 40).all (fun i => mw_ok (m_cod i) (mw_cod.getD i (9, 0))) = true := by decide +kernel
  exact List.all_eq_true.mp h i (List.mem_range'_1.mpr ⟨h1, by omega⟩)
theorem mw_codA_2 : ∀ i, 80 ≤ i → i < 120 → mw_ok (m_cod i) (mw_cod.getD i (9, 0)) = true := by
  intro i h1 h2
  have h : (List.range' 80 40).all (fun i => mw_ok (m_cod i) (mw_cod.getD i (9, 0))) = true := by decide +kernel
  exact List.all_eq_true.mp h i (List.mem_range'_1.mpr ⟨h1, by omega⟩)
theorem mw_codA_3 : ∀ i, 120 ≤ i → i < 160 → mw_ok (m_cod i) (mw_cod.getD i (9, 0)) = true := by
  intro i h1 h2
  have h : (List.range' 120 40).all (fun i => mw_ok (m_cod i) (mw_cod.getD i (9, 0))) = true := by decide +kernel
  exact List.all_eq_true.mp h i (List.mem_range'_1.mpr ⟨h1, by omega⟩)
theorem mw_codA_4 : ∀ i, 160 ≤ i → i < 200 → mw_ok (m_cod i) (mw_cod.getD i (9, 0)) = true := by
  intro i h1 h2
  have h : (List.range' 160 40).all (fun i => mw_ok (m_cod i) (mw_cod.getD i (9, 0))) = true := by decide +kernel
  exact List.all_eq_true.mp h i (List.mem_range'_1.mpr ⟨h1, by omega⟩)
theorem mw_codA_5 : ∀ i, 200 ≤ i → i < 240 → mw_ok (m_cod i) (mw_cod.getD i (9, 0)) = true := by
  intro i h1 h2
  have h : (List.range' 200 40).all (fun i => mw_ok (m_cod i) (mw_cod.getD i (9, 0))) = true := by decide +kernel
  exact List.all_eq_true.mp h i (List.mem_range'_1.mpr ⟨h1, by omega⟩)
theorem mw_codA_6 : ∀ i, 240 ≤ i → i < 280 → mw_ok (m_cod i) (mw_cod.getD i (9, 0)) = true := by
  intro i h1 h2
  have h : (List.range' 240 40).all (fun i => mw_ok (m_cod i) (mw_cod.getD i (9, 0))) = true := by decide +kernel
  exact List.all_eq_true.mp h i (List.mem_range'_1.mpr ⟨h1, by omega⟩)
theorem mw_codA_7 : ∀ i, 280 ≤ i → i < 282 → mw_ok (m_cod i) (mw_cod.getD i (9, 0)) = true := by
  intro i h1 h2
  have h : (List.range' 280 2).all (fun i => mw_ok (m_cod i) (mw_cod.getD i (9, 0))) = true := by decide +kernel
  exact List.all_eq_true.mp h i (List.mem_range'_1.mpr ⟨h1, by omega⟩)
theorem mw_codA : ∀ i, i < 282 → mw_ok (m_cod i) (mw_cod.getD i (9, 0)) = true := by
  intro i h
  by_cases h0 : i < 40
  · exact mw_codA_0 i (by omega) h0
  by_cases h1 : i < 80
  · exact mw_codA_1 i (by omega) h1
  by_cases h2 : i < 120
  · exact mw_codA_2 i (by omega) h2
  by_cases h3 : i < 160
  · exact mw_codA_3 i (by omega) h3
  by_cases h4 : i < 200
  · exact mw_codA_4 i (by omega) h4
  by_cases h5 : i < 240
  · exact mw_codA_5 i (by omega) h5
  by_cases h6 : i < 280
  · exact mw_codA_6 i (by omega) h6
  exact mw_codA_7 i (by omega) (by omega)
theorem mw_insA_0 : ∀ i, 0 ≤ i → i < 80 → mw_ok (m_ism i) (mw_ins.getD i (9, 0)) = true := by
  intro i h1 h2
  have h : (List.range' 0 80).all (fun i => mw_ok (m_ism i) (mw_ins.getD i (9, 0))) = true := by decide +kernel
  exact List.all_eq_true.mp h i (List.mem_range'_1.mpr ⟨h1, by omega⟩)
theorem mw_insA_1 : ∀ i, 80 ≤ i → i < 160 → mw_ok (m_ism i) (mw_ins.getD i (9, 0)) = true := by
  intro i h1 h2
  have h : (List.range' 80 80).all (fun i => mw_ok (m_ism i) (mw_ins.getD i (9, 0))) = true := by decide +kernel
  exact List.all_eq_true.mp h i (List.mem_range'_1.mpr ⟨h1, by omega⟩)
theorem mw_insA_2 : ∀ i, 160 ≤ i → i < 240 → mw_ok (m_ism i) (mw_ins.getD i (9, 0)) = true := by
  intro i h1 h2
  have h : (List.range' 160 80).all (fun i => mw_ok (m_ism i) (mw_ins.getD i (9, 0))) = true := by decide +kernel
  exact List.all_eq_true.mp h i (List.mem_range'_1.mpr ⟨h1, by omega⟩)
theorem mw_insA_3 : ∀ i, 240 ≤ i → i < 282 → mw_ok (m_ism i) (mw_ins.getD i (9, 0)) = true := by
  intro i h1 h2
  have h : (List.range' 240 42).all (fun i => mw_ok (m_ism i) (mw_ins.getD i (9, 0))) = true := by decide +kernel
  exact List.all_eq_true.mp h i (List.mem_range'_1.mpr ⟨h1, by omega⟩)
theorem mw_insA : ∀ i, i < 282 → mw_ok (m_ism i) (mw_ins.getD i (9, 0)) = true := by
  intro i h
  by_cases h0 : i < 80
  · exact mw_insA_0 i (by omega) h0
  by_cases h1 : i < 160
  · exact mw_insA_1 i (by omega) h1
  by_cases h2 : i < 240
  · exact mw_insA_2 i (by omega) h2
  exact mw_insA_3 i (by omega) (by omega)
theorem mw_selA_0 : ∀ i, 0 ≤ i → i < 80 → mw_sl i (mw_sel.getD i (9, 0)) = true := by
  intro i h1 h2
  have h : (List.range' 0 80).all (fun i => mw_sl i (mw_sel.getD i (9, 0))) = true := by decide +kernel
  exact List.all_eq_true.mp h i (List.mem_range'_1.mpr ⟨h1, by omega⟩)
theorem mw_selA_1 : ∀ i, 80 ≤ i → i < 160 → mw_sl i (mw_sel.getD i (9, 0)) = true := by
  intro i h1 h2
  have h : (List.range' 80 80).all (fun i => mw_sl i (mw_sel.getD i (9, 0))) = true := by decide +kernel
  exact List.all_eq_true.mp h i (List.mem_range'_1.mpr ⟨h1, by omega⟩)
theorem mw_selA_2 : ∀ i, 160 ≤ i → i < 240 → mw_sl i (mw_sel.getD i (9, 0)) = true := by
  intro i h1 h2
  have h : (List.range' 160 80).all (fun i => mw_sl i (mw_sel.getD i (9, 0))) = true := by decide +kernel
  exact List.all_eq_true.mp h i (List.mem_range'_1.mpr ⟨h1, by omega⟩)
theorem mw_selA_3 : ∀ i, 240 ≤ i → i < 282 → mw_sl i (mw_sel.getD i (9, 0)) = true := by
  intro i h1 h2
  have h : (List.range' 240 42).all (fun i => mw_sl i (mw_sel.getD i (9, 0))) = true := by decide +kernel
  exact List.all_eq_true.mp h i (List.mem_range'_1.mpr ⟨h1, by omega⟩)
theorem mw_selA : ∀ i, i < 282 → mw_sl i (mw_sel.getD i (9, 0)) = true := by
  intro i h
  by_cases h0 : i < 80
  · exact mw_selA_0 i (by omega) h0
  by_cases h1 : i < 160
  · exact mw_selA_1 i (by omega) h1
  by_cases h2 : i < 240
  · exact mw_selA_2 i (by omega) h2
  exact mw_selA_3 i (by omega) (by omega)
def mw_fl1 (r : Nat × Nat × Nat × Nat) (p : Nat × Nat) : Bool := mw_ok (.fieldLink (m_cn r.1) r.2.1 (m_cl3 r.2.2.1).1 ((m_cl3 r.2.2.1).2.1 r.2.2.2).2.1 ((m_cl3 r.2.2.1).2.1 r.2.2.2).2.2.1) p
def mw_pz : Nat → MethodName := fun m => if m = 1000 then yX6_requireSuch else if m = 1001 then yX6_requireValid else if m = 1002 then yX6_requireNow else if m = 1003 then Lib.Math.max.name else if m = 1004 then Lib.Math.min.name else if m = 1005 then yJ0_length_8abf5 else if m = 1006 then yJ0_charAt_5068e else if m = 1007 then objectInit else m_nam m
def mw_ml1 (r : Nat × Nat × Nat × Nat) (p : Nat × Nat) : Bool := (p.1 == 9 && r.1 == 6 && (r.2.1 == 25 && r.2.2.1 == mX5_init || r.2.1 == 48 && r.2.2.1 == mX4_init) || mw_ok (.methodLink (m_cn r.1) r.2.1 (mw_pz r.2.2.1)) p) && decide ((parseMethodDescriptor (mw_pz r.2.2.1).desc).map (fun d => d.parameters.length) = some r.2.2.2)
theorem mw_fldA_0 : ∀ i, 0 ≤ i → i < 70 → mw_fl1 (mm_fldL.getD i (0, 0, 0, 0)) (mw_fld.getD i (9, 0)) = true := by
  intro i h1 h2
  have h : (List.range' 0 70).all (fun i => mw_fl1 (mm_fldL.getD i (0, 0, 0, 0)) (mw_fld.getD i (9, 0))) = true := by decide +kernel
  exact List.all_eq_true.mp h i (List.mem_range'_1.mpr ⟨h1, by omega⟩)
theorem mw_fldA_1 : ∀ i, 70 ≤ i → i < 122 → mw_fl1 (mm_fldL.getD i (0, 0, 0, 0)) (mw_fld.getD i (9, 0)) = true := by
  intro i h1 h2
  have h : (List.range' 70 52).all (fun i => mw_fl1 (mm_fldL.getD i (0, 0, 0, 0)) (mw_fld.getD i (9, 0))) = true := by decide +kernel
  exact List.all_eq_true.mp h i (List.mem_range'_1.mpr ⟨h1, by omega⟩)
theorem mw_fldA : ∀ i, i < 122 → mw_fl1 (mm_fldL.getD i (0, 0, 0, 0)) (mw_fld.getD i (9, 0)) = true := by
  intro i h
  by_cases h0 : i < 70
  · exact mw_fldA_0 i (by omega) h0
  exact mw_fldA_1 i (by omega) (by omega)
theorem mw_metA_0 : ∀ i, 0 ≤ i → i < 60 → mw_ml1 (mm_metL.getD i (0, 0, 0, 0)) (mw_met.getD i (9, 0)) = true := by
  intro i h1 h2
  have h : (List.range' 0 60).all (fun i => mw_ml1 (mm_metL.getD i (0, 0, 0, 0)) (mw_met.getD i (9, 0))) = true := by decide +kernel
  exact List.all_eq_true.mp h i (List.mem_range'_1.mpr ⟨h1, by omega⟩)
theorem mw_metA_1 : ∀ i, 60 ≤ i → i < 120 → mw_ml1 (mm_metL.getD i (0, 0, 0, 0)) (mw_met.getD i (9, 0)) = true := by
  intro i h1 h2
  have h : (List.range' 60 60).all (fun i => mw_ml1 (mm_metL.getD i (0, 0, 0, 0)) (mw_met.getD i (9, 0))) = true := by decide +kernel
  exact List.all_eq_true.mp h i (List.mem_range'_1.mpr ⟨h1, by omega⟩)
theorem mw_metA_2 : ∀ i, 120 ≤ i → i < 180 → mw_ml1 (mm_metL.getD i (0, 0, 0, 0)) (mw_met.getD i (9, 0)) = true := by
  intro i h1 h2
  have h : (List.range' 120 60).all (fun i => mw_ml1 (mm_metL.getD i (0, 0, 0, 0)) (mw_met.getD i (9, 0))) = true := by decide +kernel
  exact List.all_eq_true.mp h i (List.mem_range'_1.mpr ⟨h1, by omega⟩)
theorem mw_metA_3 : ∀ i, 180 ≤ i → i < 240 → mw_ml1 (mm_metL.getD i (0, 0, 0, 0)) (mw_met.getD i (9, 0)) = true := by
  intro i h1 h2
  have h : (List.range' 180 60).all (fun i => mw_ml1 (mm_metL.getD i (0, 0, 0, 0)) (mw_met.getD i (9, 0))) = true := by decide +kernel
  exact List.all_eq_true.mp h i (List.mem_range'_1.mpr ⟨h1, by omega⟩)
theorem mw_metA_4 : ∀ i, 240 ≤ i → i < 300 → mw_ml1 (mm_metL.getD i (0, 0, 0, 0)) (mw_met.getD i (9, 0)) = true := by
  intro i h1 h2
  have h : (List.range' 240 60).all (fun i => mw_ml1 (mm_metL.getD i (0, 0, 0, 0)) (mw_met.getD i (9, 0))) = true := by decide +kernel
  exact List.all_eq_true.mp h i (List.mem_range'_1.mpr ⟨h1, by omega⟩)
theorem mw_metA_5 : ∀ i, 300 ≤ i → i < 337 → mw_ml1 (mm_metL.getD i (0, 0, 0, 0)) (mw_met.getD i (9, 0)) = true := by
  intro i h1 h2
  have h : (List.range' 300 37).all (fun i => mw_ml1 (mm_metL.getD i (0, 0, 0, 0)) (mw_met.getD i (9, 0))) = true := by decide +kernel
  exact List.all_eq_true.mp h i (List.mem_range'_1.mpr ⟨h1, by omega⟩)
theorem mw_metA : ∀ i, i < 337 → mw_ml1 (mm_metL.getD i (0, 0, 0, 0)) (mw_met.getD i (9, 0)) = true := by
  intro i h
  by_cases h0 : i < 60
  · exact mw_metA_0 i (by omega) h0
  by_cases h1 : i < 120
  · exact mw_metA_1 i (by omega) h1
  by_cases h2 : i < 180
  · exact mw_metA_2 i (by omega) h2
  by_cases h3 : i < 240
  · exact mw_metA_3 i (by omega) h3
  by_cases h4 : i < 300
  · exact mw_metA_4 i (by omega) h4
  exact mw_metA_5 i (by omega) (by omega)
theorem mw_clsA : ((mm_clsL.zip mw_cls).all (fun r => mw_ok (.classLink (m_cn r.1.1) r.1.2.1 (m_cn r.1.2.2)) r.2)) = true := by decide +kernel
theorem mw_istA : ∀ c, c < 8 → mw_ok (.instantiable (m_cl3 c).1 (m_cl3 c).2.2) (mw_ist.getD c (9, 0)) = true := by decide +kernel
theorem mw_iniA : ∀ c, c < 9 → mw_ok (.initialized (m_cn c)) (mw_ini.getD c (9, 0)) = true := by decide +kernel
theorem mw_layA : ∀ c, c < 8 → (List.range (m_cl3 c).2.2).all (fun k => mw_ok (u_lay (m_cl3 c).1 (m_cl3 c).2.1 k) ((mw_lay.getD c []).getD k (9, 0))) = true := by decide +kernel
def mw_cw (r : Nat × Nat × Nat × Int) : Cond := if r.2.2.1 = 0 then .constant (m_cn r.1) r.2.1 (Int32.ofInt r.2.2.2) else .constantLong (m_cn r.1) r.2.1 (Int64.ofInt r.2.2.2)
theorem mw_conA : ((mm_conL.zip mw_con).all (fun r => r.1.2.2.1 == 3 || mw_ok (mw_cw r.1) r.2)) = true := by decide +kernel
