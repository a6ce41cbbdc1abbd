set_option maxRecDepth 100000
def KR (s0 s : ps_S) : Prop := kq [1149, 1167, 1168] [34, 63, 64, 65] s0 s
