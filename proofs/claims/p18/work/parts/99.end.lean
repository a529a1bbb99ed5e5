theorem x_end : True := trivial
